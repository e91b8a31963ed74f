section
/-- a private method of a class that the tables say can be made, by its rows of tables_1 -/
def lw_okq (q : MethodName × Nat) : Prop := (q.1.cls ≠ "java/lang/invoke/MethodHandle" ∧ q.1.cls ≠ "java/lang/invoke/VarHandle") ∧ Cond.instantiable q.1.cls q.2 ∈ tables_1 ∧ Cond.privateMethod q.1 ∈ tables_1 ∧ Cond.instanceMethod q.1 ∈ tables_1
theorem lw_p0 : lw_okq (⟨"RumourBeds", "finding", "(I)I"⟩, 7) := ⟨⟨by decide +kernel, by decide +kernel⟩, List.mem_of_getElem? (i := 14) (by decide +kernel), List.mem_of_getElem? (i := 165) (by decide +kernel), List.mem_of_getElem? (i := 166) (by decide +kernel)⟩
theorem lw_p1 : lw_okq (⟨"RumourBeds", "isRumour", "(I)Z"⟩, 7) := ⟨⟨by decide +kernel, by decide +kernel⟩, List.mem_of_getElem? (i := 14) (by decide +kernel), List.mem_of_getElem? (i := 219) (by decide +kernel), List.mem_of_getElem? (i := 220) (by decide +kernel)⟩
theorem lw_p2 : lw_okq (⟨"RumourBeds$Town", "feedOne", "(I)V"⟩, 12) := ⟨⟨by decide +kernel, by decide +kernel⟩, List.mem_of_getElem? (i := 22) (by decide +kernel), List.mem_of_getElem? (i := 327) (by decide +kernel), List.mem_of_getElem? (i := 328) (by decide +kernel)⟩
theorem lw_p3 : lw_okq (⟨"RumourBeds$Town", "makeThird", "(I)V"⟩, 12) := ⟨⟨by decide +kernel, by decide +kernel⟩, List.mem_of_getElem? (i := 22) (by decide +kernel), List.mem_of_getElem? (i := 332) (by decide +kernel), List.mem_of_getElem? (i := 333) (by decide +kernel)⟩
theorem lw_p4 : lw_okq (⟨"RumourBeds$Town", "pairedEvent", "(I)I"⟩, 12) := ⟨⟨by decide +kernel, by decide +kernel⟩, List.mem_of_getElem? (i := 22) (by decide +kernel), List.mem_of_getElem? (i := 336) (by decide +kernel), List.mem_of_getElem? (i := 337) (by decide +kernel)⟩
theorem lw_p5 : lw_okq (⟨"RumourBeds$Town", "isOnRoad", "(I)Z"⟩, 12) := ⟨⟨by decide +kernel, by decide +kernel⟩, List.mem_of_getElem? (i := 22) (by decide +kernel), List.mem_of_getElem? (i := 340) (by decide +kernel), List.mem_of_getElem? (i := 341) (by decide +kernel)⟩
theorem lw_p6 : lw_okq (⟨"RumourBeds$Tape", "nextToken", "()V"⟩, 6) := ⟨⟨by decide +kernel, by decide +kernel⟩, List.mem_of_getElem? (i := 82) (by decide +kernel), List.mem_of_getElem? (i := 450) (by decide +kernel), List.mem_of_getElem? (i := 451) (by decide +kernel)⟩
theorem lw_p7 : lw_okq (⟨"RumourBeds$Tape", "tellItem", "(LRumourBeds$Town;)Z"⟩, 6) := ⟨⟨by decide +kernel, by decide +kernel⟩, List.mem_of_getElem? (i := 82) (by decide +kernel), List.mem_of_getElem? (i := 458) (by decide +kernel), List.mem_of_getElem? (i := 459) (by decide +kernel)⟩
theorem lw_p8 : lw_okq (⟨"RumourBeds$Tape", "isWord", "(Ljava/lang/String;)Z"⟩, 6) := ⟨⟨by decide +kernel, by decide +kernel⟩, List.mem_of_getElem? (i := 82) (by decide +kernel), List.mem_of_getElem? (i := 463) (by decide +kernel), List.mem_of_getElem? (i := 464) (by decide +kernel)⟩
theorem lw_p9 : lw_okq (⟨"RumourBeds$Tape", "tellHouse", "(LRumourBeds$Town;)Z"⟩, 6) := ⟨⟨by decide +kernel, by decide +kernel⟩, List.mem_of_getElem? (i := 82) (by decide +kernel), List.mem_of_getElem? (i := 515) (by decide +kernel), List.mem_of_getElem? (i := 516) (by decide +kernel)⟩
theorem lw_p10 : lw_okq (⟨"RumourBeds$Tape", "passNumber", "(I)I"⟩, 6) := ⟨⟨by decide +kernel, by decide +kernel⟩, List.mem_of_getElem? (i := 82) (by decide +kernel), List.mem_of_getElem? (i := 519) (by decide +kernel), List.mem_of_getElem? (i := 520) (by decide +kernel)⟩
theorem lw_p11 : lw_okq (⟨"RumourBeds$Tape", "isNumber", "(I)Z"⟩, 6) := ⟨⟨by decide +kernel, by decide +kernel⟩, List.mem_of_getElem? (i := 82) (by decide +kernel), List.mem_of_getElem? (i := 523) (by decide +kernel), List.mem_of_getElem? (i := 524) (by decide +kernel)⟩
theorem lw_p12 : lw_okq (⟨"RumourBeds$Tape", "tellPart", "(Ljava/lang/String;I[II)Z"⟩, 6) := ⟨⟨by decide +kernel, by decide +kernel⟩, List.mem_of_getElem? (i := 82) (by decide +kernel), List.mem_of_getElem? (i := 528) (by decide +kernel), List.mem_of_getElem? (i := 529) (by decide +kernel)⟩
theorem lw_p13 : lw_okq (⟨"RumourBeds$Tape", "tellTrue", "(LRumourBeds$Town;)Z"⟩, 6) := ⟨⟨by decide +kernel, by decide +kernel⟩, List.mem_of_getElem? (i := 82) (by decide +kernel), List.mem_of_getElem? (i := 535) (by decide +kernel), List.mem_of_getElem? (i := 536) (by decide +kernel)⟩
theorem lw_p14 : lw_okq (⟨"RumourBeds$Tape", "tellRumour", "(LRumourBeds$Town;I)Z"⟩, 6) := ⟨⟨by decide +kernel, by decide +kernel⟩, List.mem_of_getElem? (i := 82) (by decide +kernel), List.mem_of_getElem? (i := 549) (by decide +kernel), List.mem_of_getElem? (i := 550) (by decide +kernel)⟩
theorem lw_p15 : lw_okq (⟨"RumourBeds$Tape", "tellLodging", "(LRumourBeds$Town;I)Z"⟩, 6) := ⟨⟨by decide +kernel, by decide +kernel⟩, List.mem_of_getElem? (i := 82) (by decide +kernel), List.mem_of_getElem? (i := 557) (by decide +kernel), List.mem_of_getElem? (i := 558) (by decide +kernel)⟩
def lw_privs_1 : List (MethodName × Nat) := [(⟨"RumourBeds", "finding", "(I)I"⟩, 7), (⟨"RumourBeds", "isRumour", "(I)Z"⟩, 7), (⟨"RumourBeds$Town", "feedOne", "(I)V"⟩, 12), (⟨"RumourBeds$Town", "makeThird", "(I)V"⟩, 12), (⟨"RumourBeds$Town", "pairedEvent", "(I)I"⟩, 12), (⟨"RumourBeds$Town", "isOnRoad", "(I)Z"⟩, 12), (⟨"RumourBeds$Tape", "nextToken", "()V"⟩, 6), (⟨"RumourBeds$Tape", "tellItem", "(LRumourBeds$Town;)Z"⟩, 6), (⟨"RumourBeds$Tape", "isWord", "(Ljava/lang/String;)Z"⟩, 6), (⟨"RumourBeds$Tape", "tellHouse", "(LRumourBeds$Town;)Z"⟩, 6), (⟨"RumourBeds$Tape", "passNumber", "(I)I"⟩, 6), (⟨"RumourBeds$Tape", "isNumber", "(I)Z"⟩, 6), (⟨"RumourBeds$Tape", "tellPart", "(Ljava/lang/String;I[II)Z"⟩, 6), (⟨"RumourBeds$Tape", "tellTrue", "(LRumourBeds$Town;)Z"⟩, 6), (⟨"RumourBeds$Tape", "tellRumour", "(LRumourBeds$Town;I)Z"⟩, 6), (⟨"RumourBeds$Tape", "tellLodging", "(LRumourBeds$Town;I)Z"⟩, 6)]
theorem lw_r1 : ∀ q ∈ lw_privs_1, lw_okq q := List.forall_mem_cons.mpr ⟨lw_p0, List.forall_mem_cons.mpr ⟨lw_p1, List.forall_mem_cons.mpr ⟨lw_p2, List.forall_mem_cons.mpr ⟨lw_p3, List.forall_mem_cons.mpr ⟨lw_p4, List.forall_mem_cons.mpr ⟨lw_p5, List.forall_mem_cons.mpr ⟨lw_p6, List.forall_mem_cons.mpr ⟨lw_p7, List.forall_mem_cons.mpr ⟨lw_p8, List.forall_mem_cons.mpr ⟨lw_p9, List.forall_mem_cons.mpr ⟨lw_p10, List.forall_mem_cons.mpr ⟨lw_p11, List.forall_mem_cons.mpr ⟨lw_p12, List.forall_mem_cons.mpr ⟨lw_p13, List.forall_mem_cons.mpr ⟨lw_p14, List.forall_mem_cons.mpr ⟨lw_p15, fun _ h => absurd h List.not_mem_nil⟩⟩⟩⟩⟩⟩⟩⟩⟩⟩⟩⟩⟩⟩⟩⟩
theorem lw_p16 : lw_okq (⟨"RumourBeds", "findingOfBook", "(II)I"⟩, 7) := ⟨⟨by decide +kernel, by decide +kernel⟩, List.mem_of_getElem? (i := 14) (by decide +kernel), List.mem_of_getElem? (i := 608) (by decide +kernel), List.mem_of_getElem? (i := 609) (by decide +kernel)⟩
theorem lw_p17 : lw_okq (⟨"RumourBeds", "isBookOf", "(LRumourBeds$Sheet;I)Z"⟩, 7) := ⟨⟨by decide +kernel, by decide +kernel⟩, List.mem_of_getElem? (i := 14) (by decide +kernel), List.mem_of_getElem? (i := 616) (by decide +kernel), List.mem_of_getElem? (i := 617) (by decide +kernel)⟩
theorem lw_p18 : lw_okq (⟨"RumourBedsModel", "becomes", "(II)I"⟩, 16) := ⟨⟨by decide +kernel, by decide +kernel⟩, List.mem_of_getElem? (i := 640) (by decide +kernel), List.mem_of_getElem? (i := 713) (by decide +kernel), List.mem_of_getElem? (i := 714) (by decide +kernel)⟩
theorem lw_p19 : lw_okq (⟨"RumourBedsModel", "finds", "(I)I"⟩, 16) := ⟨⟨by decide +kernel, by decide +kernel⟩, List.mem_of_getElem? (i := 640) (by decide +kernel), List.mem_of_getElem? (i := 718) (by decide +kernel), List.mem_of_getElem? (i := 719) (by decide +kernel)⟩
theorem lw_p20 : lw_okq (⟨"RumourBedsModel", "has", "(II)I"⟩, 16) := ⟨⟨by decide +kernel, by decide +kernel⟩, List.mem_of_getElem? (i := 640) (by decide +kernel), List.mem_of_getElem? (i := 727) (by decide +kernel), List.mem_of_getElem? (i := 728) (by decide +kernel)⟩
theorem lw_p21 : lw_okq (⟨"RumourBedsModel", "thoseAt", "(I)I"⟩, 16) := ⟨⟨by decide +kernel, by decide +kernel⟩, List.mem_of_getElem? (i := 640) (by decide +kernel), List.mem_of_getElem? (i := 731) (by decide +kernel), List.mem_of_getElem? (i := 732) (by decide +kernel)⟩
theorem lw_p22 : lw_okq (⟨"RumourBedsModel", "its", "(II)I"⟩, 16) := ⟨⟨by decide +kernel, by decide +kernel⟩, List.mem_of_getElem? (i := 640) (by decide +kernel), List.mem_of_getElem? (i := 735) (by decide +kernel), List.mem_of_getElem? (i := 736) (by decide +kernel)⟩
theorem lw_p23 : lw_okq (⟨"RumourBedsModel", "eventsAt", "(I)I"⟩, 16) := ⟨⟨by decide +kernel, by decide +kernel⟩, List.mem_of_getElem? (i := 640) (by decide +kernel), List.mem_of_getElem? (i := 742) (by decide +kernel), List.mem_of_getElem? (i := 743) (by decide +kernel)⟩
theorem lw_p24 : lw_okq (⟨"RumourBedsModel", "eatenAt", "(I)I"⟩, 16) := ⟨⟨by decide +kernel, by decide +kernel⟩, List.mem_of_getElem? (i := 640) (by decide +kernel), List.mem_of_getElem? (i := 746) (by decide +kernel), List.mem_of_getElem? (i := 747) (by decide +kernel)⟩
theorem lw_p25 : lw_okq (⟨"RumourBedsModel", "eats", "(I)I"⟩, 16) := ⟨⟨by decide +kernel, by decide +kernel⟩, List.mem_of_getElem? (i := 640) (by decide +kernel), List.mem_of_getElem? (i := 750) (by decide +kernel), List.mem_of_getElem? (i := 751) (by decide +kernel)⟩
theorem lw_p26 : lw_okq (⟨"RumourBedsModel", "adds", "(II)I"⟩, 16) := ⟨⟨by decide +kernel, by decide +kernel⟩, List.mem_of_getElem? (i := 640) (by decide +kernel), List.mem_of_getElem? (i := 766) (by decide +kernel), List.mem_of_getElem? (i := 767) (by decide +kernel)⟩
theorem lw_p27 : lw_okq (⟨"RumourBedsModel", "isRumour", "(I)Z"⟩, 16) := ⟨⟨by decide +kernel, by decide +kernel⟩, List.mem_of_getElem? (i := 640) (by decide +kernel), List.mem_of_getElem? (i := 774) (by decide +kernel), List.mem_of_getElem? (i := 775) (by decide +kernel)⟩
theorem lw_p28 : lw_okq (⟨"RumourBedsModel", "needs", "(I)I"⟩, 16) := ⟨⟨by decide +kernel, by decide +kernel⟩, List.mem_of_getElem? (i := 640) (by decide +kernel), List.mem_of_getElem? (i := 778) (by decide +kernel), List.mem_of_getElem? (i := 779) (by decide +kernel)⟩
theorem lw_p29 : lw_okq (⟨"RumourBedsModel", "grows", "(I)I"⟩, 16) := ⟨⟨by decide +kernel, by decide +kernel⟩, List.mem_of_getElem? (i := 640) (by decide +kernel), List.mem_of_getElem? (i := 782) (by decide +kernel), List.mem_of_getElem? (i := 783) (by decide +kernel)⟩
theorem lw_p30 : lw_okq (⟨"RumourBedsModel", "isTaken", "(II)Z"⟩, 16) := ⟨⟨by decide +kernel, by decide +kernel⟩, List.mem_of_getElem? (i := 640) (by decide +kernel), List.mem_of_getElem? (i := 807) (by decide +kernel), List.mem_of_getElem? (i := 808) (by decide +kernel)⟩
theorem lw_p31 : lw_okq (⟨"RumourBedsModel", "isFree", "(I)Z"⟩, 16) := ⟨⟨by decide +kernel, by decide +kernel⟩, List.mem_of_getElem? (i := 640) (by decide +kernel), List.mem_of_getElem? (i := 811) (by decide +kernel), List.mem_of_getElem? (i := 812) (by decide +kernel)⟩
def lw_privs_2 : List (MethodName × Nat) := [(⟨"RumourBeds", "findingOfBook", "(II)I"⟩, 7), (⟨"RumourBeds", "isBookOf", "(LRumourBeds$Sheet;I)Z"⟩, 7), (⟨"RumourBedsModel", "becomes", "(II)I"⟩, 16), (⟨"RumourBedsModel", "finds", "(I)I"⟩, 16), (⟨"RumourBedsModel", "has", "(II)I"⟩, 16), (⟨"RumourBedsModel", "thoseAt", "(I)I"⟩, 16), (⟨"RumourBedsModel", "its", "(II)I"⟩, 16), (⟨"RumourBedsModel", "eventsAt", "(I)I"⟩, 16), (⟨"RumourBedsModel", "eatenAt", "(I)I"⟩, 16), (⟨"RumourBedsModel", "eats", "(I)I"⟩, 16), (⟨"RumourBedsModel", "adds", "(II)I"⟩, 16), (⟨"RumourBedsModel", "isRumour", "(I)Z"⟩, 16), (⟨"RumourBedsModel", "needs", "(I)I"⟩, 16), (⟨"RumourBedsModel", "grows", "(I)I"⟩, 16), (⟨"RumourBedsModel", "isTaken", "(II)Z"⟩, 16), (⟨"RumourBedsModel", "isFree", "(I)Z"⟩, 16)]
theorem lw_r2 : ∀ q ∈ lw_privs_2, lw_okq q := List.forall_mem_cons.mpr ⟨lw_p16, List.forall_mem_cons.mpr ⟨lw_p17, List.forall_mem_cons.mpr ⟨lw_p18, List.forall_mem_cons.mpr ⟨lw_p19, List.forall_mem_cons.mpr ⟨lw_p20, List.forall_mem_cons.mpr ⟨lw_p21, List.forall_mem_cons.mpr ⟨lw_p22, List.forall_mem_cons.mpr ⟨lw_p23, List.forall_mem_cons.mpr ⟨lw_p24, List.forall_mem_cons.mpr ⟨lw_p25, List.forall_mem_cons.mpr ⟨lw_p26, List.forall_mem_cons.mpr ⟨lw_p27, List.forall_mem_cons.mpr ⟨lw_p28, List.forall_mem_cons.mpr ⟨lw_p29, List.forall_mem_cons.mpr ⟨lw_p30, List.forall_mem_cons.mpr ⟨lw_p31, fun _ h => absurd h List.not_mem_nil⟩⟩⟩⟩⟩⟩⟩⟩⟩⟩⟩⟩⟩⟩⟩⟩
theorem lw_p32 : lw_okq (⟨"RumourBedsModel", "isTrue", "(I)Z"⟩, 16) := ⟨⟨by decide +kernel, by decide +kernel⟩, List.mem_of_getElem? (i := 640) (by decide +kernel), List.mem_of_getElem? (i := 822) (by decide +kernel), List.mem_of_getElem? (i := 823) (by decide +kernel)⟩
theorem lw_p33 : lw_okq (⟨"RumourBedsModel", "hostOf", "(I)I"⟩, 16) := ⟨⟨by decide +kernel, by decide +kernel⟩, List.mem_of_getElem? (i := 640) (by decide +kernel), List.mem_of_getElem? (i := 827) (by decide +kernel), List.mem_of_getElem? (i := 828) (by decide +kernel)⟩
theorem lw_p34 : lw_okq (⟨"RumourBedsModel", "isImproved", "(II)V"⟩, 16) := ⟨⟨by decide +kernel, by decide +kernel⟩, List.mem_of_getElem? (i := 640) (by decide +kernel), List.mem_of_getElem? (i := 836) (by decide +kernel), List.mem_of_getElem? (i := 837) (by decide +kernel)⟩
theorem lw_p35 : lw_okq (⟨"RumourBedsModel", "becomesTrue", "(I)I"⟩, 16) := ⟨⟨by decide +kernel, by decide +kernel⟩, List.mem_of_getElem? (i := 640) (by decide +kernel), List.mem_of_getElem? (i := 847) (by decide +kernel), List.mem_of_getElem? (i := 848) (by decide +kernel)⟩
theorem lw_p36 : lw_okq (⟨"RumourBedsModel", "daysGo", "(I)V"⟩, 16) := ⟨⟨by decide +kernel, by decide +kernel⟩, List.mem_of_getElem? (i := 640) (by decide +kernel), List.mem_of_getElem? (i := 860) (by decide +kernel), List.mem_of_getElem? (i := 861) (by decide +kernel)⟩
theorem lw_p37 : lw_okq (⟨"RumourBedsModel", "day", "()V"⟩, 16) := ⟨⟨by decide +kernel, by decide +kernel⟩, List.mem_of_getElem? (i := 640) (by decide +kernel), List.mem_of_getElem? (i := 864) (by decide +kernel), List.mem_of_getElem? (i := 865) (by decide +kernel)⟩
theorem lw_p38 : lw_okq (⟨"RumourBedsModel", "feeds", "(I)V"⟩, 16) := ⟨⟨by decide +kernel, by decide +kernel⟩, List.mem_of_getElem? (i := 640) (by decide +kernel), List.mem_of_getElem? (i := 868) (by decide +kernel), List.mem_of_getElem? (i := 869) (by decide +kernel)⟩
theorem lw_p39 : lw_okq (⟨"RumourBedsModel", "makesThird", "(I)V"⟩, 16) := ⟨⟨by decide +kernel, by decide +kernel⟩, List.mem_of_getElem? (i := 640) (by decide +kernel), List.mem_of_getElem? (i := 872) (by decide +kernel), List.mem_of_getElem? (i := 873) (by decide +kernel)⟩
theorem lw_p40 : lw_okq (⟨"RumourBedsModel", "lodgersOf", "(II)I"⟩, 16) := ⟨⟨by decide +kernel, by decide +kernel⟩, List.mem_of_getElem? (i := 640) (by decide +kernel), List.mem_of_getElem? (i := 876) (by decide +kernel), List.mem_of_getElem? (i := 877) (by decide +kernel)⟩
theorem lw_p41 : lw_okq (⟨"RumourBedsModel", "isOnRoad", "(I)Z"⟩, 16) := ⟨⟨by decide +kernel, by decide +kernel⟩, List.mem_of_getElem? (i := 640) (by decide +kernel), List.mem_of_getElem? (i := 880) (by decide +kernel), List.mem_of_getElem? (i := 881) (by decide +kernel)⟩
theorem lw_p42 : lw_okq (⟨"RumourBedsModel", "bulks", "()I"⟩, 16) := ⟨⟨by decide +kernel, by decide +kernel⟩, List.mem_of_getElem? (i := 640) (by decide +kernel), List.mem_of_getElem? (i := 888) (by decide +kernel), List.mem_of_getElem? (i := 889) (by decide +kernel)⟩
theorem lw_p43 : lw_okq (⟨"RumourBedsModel", "larders", "()I"⟩, 16) := ⟨⟨by decide +kernel, by decide +kernel⟩, List.mem_of_getElem? (i := 640) (by decide +kernel), List.mem_of_getElem? (i := 892) (by decide +kernel), List.mem_of_getElem? (i := 893) (by decide +kernel)⟩
theorem lw_p44 : lw_okq (⟨"RumourBedsModel", "freeBeds", "()I"⟩, 16) := ⟨⟨by decide +kernel, by decide +kernel⟩, List.mem_of_getElem? (i := 640) (by decide +kernel), List.mem_of_getElem? (i := 896) (by decide +kernel), List.mem_of_getElem? (i := 897) (by decide +kernel)⟩
theorem lw_p45 : lw_okq (⟨"RumourBedsModel", "eaten", "()I"⟩, 16) := ⟨⟨by decide +kernel, by decide +kernel⟩, List.mem_of_getElem? (i := 640) (by decide +kernel), List.mem_of_getElem? (i := 900) (by decide +kernel), List.mem_of_getElem? (i := 901) (by decide +kernel)⟩
theorem lw_p46 : lw_okq (⟨"RumourBedsModel", "behind", "(II)I"⟩, 16) := ⟨⟨by decide +kernel, by decide +kernel⟩, List.mem_of_getElem? (i := 640) (by decide +kernel), List.mem_of_getElem? (i := 911) (by decide +kernel), List.mem_of_getElem? (i := 912) (by decide +kernel)⟩
theorem lw_p47 : lw_okq (⟨"RumourBedsModel", "laysAside", "()V"⟩, 16) := ⟨⟨by decide +kernel, by decide +kernel⟩, List.mem_of_getElem? (i := 640) (by decide +kernel), List.mem_of_getElem? (i := 915) (by decide +kernel), List.mem_of_getElem? (i := 916) (by decide +kernel)⟩
def lw_privs_3 : List (MethodName × Nat) := [(⟨"RumourBedsModel", "isTrue", "(I)Z"⟩, 16), (⟨"RumourBedsModel", "hostOf", "(I)I"⟩, 16), (⟨"RumourBedsModel", "isImproved", "(II)V"⟩, 16), (⟨"RumourBedsModel", "becomesTrue", "(I)I"⟩, 16), (⟨"RumourBedsModel", "daysGo", "(I)V"⟩, 16), (⟨"RumourBedsModel", "day", "()V"⟩, 16), (⟨"RumourBedsModel", "feeds", "(I)V"⟩, 16), (⟨"RumourBedsModel", "makesThird", "(I)V"⟩, 16), (⟨"RumourBedsModel", "lodgersOf", "(II)I"⟩, 16), (⟨"RumourBedsModel", "isOnRoad", "(I)Z"⟩, 16), (⟨"RumourBedsModel", "bulks", "()I"⟩, 16), (⟨"RumourBedsModel", "larders", "()I"⟩, 16), (⟨"RumourBedsModel", "freeBeds", "()I"⟩, 16), (⟨"RumourBedsModel", "eaten", "()I"⟩, 16), (⟨"RumourBedsModel", "behind", "(II)I"⟩, 16), (⟨"RumourBedsModel", "laysAside", "()V"⟩, 16)]
theorem lw_r3 : ∀ q ∈ lw_privs_3, lw_okq q := List.forall_mem_cons.mpr ⟨lw_p32, List.forall_mem_cons.mpr ⟨lw_p33, List.forall_mem_cons.mpr ⟨lw_p34, List.forall_mem_cons.mpr ⟨lw_p35, List.forall_mem_cons.mpr ⟨lw_p36, List.forall_mem_cons.mpr ⟨lw_p37, List.forall_mem_cons.mpr ⟨lw_p38, List.forall_mem_cons.mpr ⟨lw_p39, List.forall_mem_cons.mpr ⟨lw_p40, List.forall_mem_cons.mpr ⟨lw_p41, List.forall_mem_cons.mpr ⟨lw_p42, List.forall_mem_cons.mpr ⟨lw_p43, List.forall_mem_cons.mpr ⟨lw_p44, List.forall_mem_cons.mpr ⟨lw_p45, List.forall_mem_cons.mpr ⟨lw_p46, List.forall_mem_cons.mpr ⟨lw_p47, fun _ h => absurd h List.not_mem_nil⟩⟩⟩⟩⟩⟩⟩⟩⟩⟩⟩⟩⟩⟩⟩⟩
theorem lw_p48 : lw_okq (⟨"RumourBedsModel", "takesBack", "(I)I"⟩, 16) := ⟨⟨by decide +kernel, by decide +kernel⟩, List.mem_of_getElem? (i := 640) (by decide +kernel), List.mem_of_getElem? (i := 919) (by decide +kernel), List.mem_of_getElem? (i := 920) (by decide +kernel)⟩
theorem lw_p49 : lw_okq (⟨"RumourBedsModel", "firstAs", "(II)I"⟩, 16) := ⟨⟨by decide +kernel, by decide +kernel⟩, List.mem_of_getElem? (i := 640) (by decide +kernel), List.mem_of_getElem? (i := 931) (by decide +kernel), List.mem_of_getElem? (i := 932) (by decide +kernel)⟩
theorem lw_p50 : lw_okq (⟨"RumourBedsModel", "wrongLodger", "(I)I"⟩, 16) := ⟨⟨by decide +kernel, by decide +kernel⟩, List.mem_of_getElem? (i := 640) (by decide +kernel), List.mem_of_getElem? (i := 948) (by decide +kernel), List.mem_of_getElem? (i := 949) (by decide +kernel)⟩
theorem lw_p51 : lw_okq (⟨"RumourBedsModel", "saves", "()V"⟩, 16) := ⟨⟨by decide +kernel, by decide +kernel⟩, List.mem_of_getElem? (i := 640) (by decide +kernel), List.mem_of_getElem? (i := 996) (by decide +kernel), List.mem_of_getElem? (i := 997) (by decide +kernel)⟩
theorem lw_p52 : lw_okq (⟨"RumourBedsModel", "token", "()V"⟩, 16) := ⟨⟨by decide +kernel, by decide +kernel⟩, List.mem_of_getElem? (i := 640) (by decide +kernel), List.mem_of_getElem? (i := 1000) (by decide +kernel), List.mem_of_getElem? (i := 1001) (by decide +kernel)⟩
theorem lw_p53 : lw_okq (⟨"RumourBedsModel", "byteAt", "(I)I"⟩, 16) := ⟨⟨by decide +kernel, by decide +kernel⟩, List.mem_of_getElem? (i := 640) (by decide +kernel), List.mem_of_getElem? (i := 1004) (by decide +kernel), List.mem_of_getElem? (i := 1005) (by decide +kernel)⟩
theorem lw_p54 : lw_okq (⟨"RumourBedsModel", "item", "()V"⟩, 16) := ⟨⟨by decide +kernel, by decide +kernel⟩, List.mem_of_getElem? (i := 640) (by decide +kernel), List.mem_of_getElem? (i := 1018) (by decide +kernel), List.mem_of_getElem? (i := 1019) (by decide +kernel)⟩
theorem lw_p55 : lw_okq (⟨"RumourBedsModel", "kindHere", "()I"⟩, 16) := ⟨⟨by decide +kernel, by decide +kernel⟩, List.mem_of_getElem? (i := 640) (by decide +kernel), List.mem_of_getElem? (i := 1022) (by decide +kernel), List.mem_of_getElem? (i := 1023) (by decide +kernel)⟩
theorem lw_p56 : lw_okq (⟨"RumourBedsModel", "word", "()J"⟩, 16) := ⟨⟨by decide +kernel, by decide +kernel⟩, List.mem_of_getElem? (i := 640) (by decide +kernel), List.mem_of_getElem? (i := 1026) (by decide +kernel), List.mem_of_getElem? (i := 1027) (by decide +kernel)⟩
theorem lw_p57 : lw_okq (⟨"RumourBedsModel", "rumourItem", "(I)V"⟩, 16) := ⟨⟨by decide +kernel, by decide +kernel⟩, List.mem_of_getElem? (i := 640) (by decide +kernel), List.mem_of_getElem? (i := 1038) (by decide +kernel), List.mem_of_getElem? (i := 1039) (by decide +kernel)⟩
theorem lw_p58 : lw_okq (⟨"RumourBedsModel", "must", "(Z)V"⟩, 16) := ⟨⟨by decide +kernel, by decide +kernel⟩, List.mem_of_getElem? (i := 640) (by decide +kernel), List.mem_of_getElem? (i := 1042) (by decide +kernel), List.mem_of_getElem? (i := 1043) (by decide +kernel)⟩
theorem lw_p59 : lw_okq (⟨"RumourBedsModel", "number", "(II)V"⟩, 16) := ⟨⟨by decide +kernel, by decide +kernel⟩, List.mem_of_getElem? (i := 640) (by decide +kernel), List.mem_of_getElem? (i := 1047) (by decide +kernel), List.mem_of_getElem? (i := 1048) (by decide +kernel)⟩
theorem lw_p60 : lw_okq (⟨"RumourBedsModel", "partItem", "(JII)V"⟩, 16) := ⟨⟨by decide +kernel, by decide +kernel⟩, List.mem_of_getElem? (i := 640) (by decide +kernel), List.mem_of_getElem? (i := 1052) (by decide +kernel), List.mem_of_getElem? (i := 1053) (by decide +kernel)⟩
theorem lw_p61 : lw_okq (⟨"RumourBedsModel", "peeked", "()I"⟩, 16) := ⟨⟨by decide +kernel, by decide +kernel⟩, List.mem_of_getElem? (i := 640) (by decide +kernel), List.mem_of_getElem? (i := 1057) (by decide +kernel), List.mem_of_getElem? (i := 1058) (by decide +kernel)⟩
theorem lw_p62 : lw_okq (⟨"RumourBedsModel", "houseItem", "()V"⟩, 16) := ⟨⟨by decide +kernel, by decide +kernel⟩, List.mem_of_getElem? (i := 640) (by decide +kernel), List.mem_of_getElem? (i := 1062) (by decide +kernel), List.mem_of_getElem? (i := 1063) (by decide +kernel)⟩
theorem lw_p63 : lw_okq (⟨"RumourBedsModel", "putsBack", "()V"⟩, 16) := ⟨⟨by decide +kernel, by decide +kernel⟩, List.mem_of_getElem? (i := 640) (by decide +kernel), List.mem_of_getElem? (i := 1070) (by decide +kernel), List.mem_of_getElem? (i := 1071) (by decide +kernel)⟩
def lw_privs_4 : List (MethodName × Nat) := [(⟨"RumourBedsModel", "takesBack", "(I)I"⟩, 16), (⟨"RumourBedsModel", "firstAs", "(II)I"⟩, 16), (⟨"RumourBedsModel", "wrongLodger", "(I)I"⟩, 16), (⟨"RumourBedsModel", "saves", "()V"⟩, 16), (⟨"RumourBedsModel", "token", "()V"⟩, 16), (⟨"RumourBedsModel", "byteAt", "(I)I"⟩, 16), (⟨"RumourBedsModel", "item", "()V"⟩, 16), (⟨"RumourBedsModel", "kindHere", "()I"⟩, 16), (⟨"RumourBedsModel", "word", "()J"⟩, 16), (⟨"RumourBedsModel", "rumourItem", "(I)V"⟩, 16), (⟨"RumourBedsModel", "must", "(Z)V"⟩, 16), (⟨"RumourBedsModel", "number", "(II)V"⟩, 16), (⟨"RumourBedsModel", "partItem", "(JII)V"⟩, 16), (⟨"RumourBedsModel", "peeked", "()I"⟩, 16), (⟨"RumourBedsModel", "houseItem", "()V"⟩, 16), (⟨"RumourBedsModel", "putsBack", "()V"⟩, 16)]
theorem lw_r4 : ∀ q ∈ lw_privs_4, lw_okq q := List.forall_mem_cons.mpr ⟨lw_p48, List.forall_mem_cons.mpr ⟨lw_p49, List.forall_mem_cons.mpr ⟨lw_p50, List.forall_mem_cons.mpr ⟨lw_p51, List.forall_mem_cons.mpr ⟨lw_p52, List.forall_mem_cons.mpr ⟨lw_p53, List.forall_mem_cons.mpr ⟨lw_p54, List.forall_mem_cons.mpr ⟨lw_p55, List.forall_mem_cons.mpr ⟨lw_p56, List.forall_mem_cons.mpr ⟨lw_p57, List.forall_mem_cons.mpr ⟨lw_p58, List.forall_mem_cons.mpr ⟨lw_p59, List.forall_mem_cons.mpr ⟨lw_p60, List.forall_mem_cons.mpr ⟨lw_p61, List.forall_mem_cons.mpr ⟨lw_p62, List.forall_mem_cons.mpr ⟨lw_p63, fun _ h => absurd h List.not_mem_nil⟩⟩⟩⟩⟩⟩⟩⟩⟩⟩⟩⟩⟩⟩⟩⟩
theorem lw_p64 : lw_okq (⟨"RumourBedsModel", "wrongSheet", "(I)I"⟩, 16) := ⟨⟨by decide +kernel, by decide +kernel⟩, List.mem_of_getElem? (i := 640) (by decide +kernel), List.mem_of_getElem? (i := 1086) (by decide +kernel), List.mem_of_getElem? (i := 1087) (by decide +kernel)⟩
theorem lw_p65 : lw_okq (⟨"RumourBedsModel", "wrongBook", "(II)I"⟩, 16) := ⟨⟨by decide +kernel, by decide +kernel⟩, List.mem_of_getElem? (i := 640) (by decide +kernel), List.mem_of_getElem? (i := 1106) (by decide +kernel), List.mem_of_getElem? (i := 1107) (by decide +kernel)⟩
theorem lw_p66 : lw_okq (⟨"RumourBedsModel", "isBook", "(II)Z"⟩, 16) := ⟨⟨by decide +kernel, by decide +kernel⟩, List.mem_of_getElem? (i := 640) (by decide +kernel), List.mem_of_getElem? (i := 1114) (by decide +kernel), List.mem_of_getElem? (i := 1115) (by decide +kernel)⟩
theorem lw_p67 : lw_okq (⟨"RumourBedsModel", "bedsAll", "()I"⟩, 16) := ⟨⟨by decide +kernel, by decide +kernel⟩, List.mem_of_getElem? (i := 640) (by decide +kernel), List.mem_of_getElem? (i := 1134) (by decide +kernel), List.mem_of_getElem? (i := 1135) (by decide +kernel)⟩
def lw_privs_5 : List (MethodName × Nat) := [(⟨"RumourBedsModel", "wrongSheet", "(I)I"⟩, 16), (⟨"RumourBedsModel", "wrongBook", "(II)I"⟩, 16), (⟨"RumourBedsModel", "isBook", "(II)Z"⟩, 16), (⟨"RumourBedsModel", "bedsAll", "()I"⟩, 16)]
theorem lw_r5 : ∀ q ∈ lw_privs_5, lw_okq q := List.forall_mem_cons.mpr ⟨lw_p64, List.forall_mem_cons.mpr ⟨lw_p65, List.forall_mem_cons.mpr ⟨lw_p66, List.forall_mem_cons.mpr ⟨lw_p67, fun _ h => absurd h List.not_mem_nil⟩⟩⟩⟩
def lw_privs : List (MethodName × Nat) := lw_privs_1 ++ (lw_privs_2 ++ (lw_privs_3 ++ (lw_privs_4 ++ (lw_privs_5))))
def lw_tbl : List Cond := k2_sels lw_privs ++ tables_1
theorem lw_privs_ok : ∀ q ∈ lw_privs, lw_okq q := by
  show ∀ q ∈ lw_privs_1 ++ (lw_privs_2 ++ (lw_privs_3 ++ (lw_privs_4 ++ (lw_privs_5)))), lw_okq q
  exact List.forall_mem_append.mpr ⟨lw_r1, List.forall_mem_append.mpr ⟨lw_r2, List.forall_mem_append.mpr ⟨lw_r3, List.forall_mem_append.mpr ⟨lw_r4, lw_r5⟩⟩⟩⟩
end
section
def RX0 : String := "RumourBeds$Kinds"
def TX0 : u_T := fun k => match k with
  | _ => ("", "", "", false)
def tyX0 : Nat → FieldType := fun k => match k with
  | _ => .int
theorem nmX0 : ∀ a, a < 0 → ∀ b, b < 0 → a ≠ b → (TX0 a).2.1 ≠ (TX0 b).2.1 := by decide +kernel
theorem tyX0_ok : ∀ k, k < 0 → parseFieldDescriptor (TX0 k).2.2.1 = some (tyX0 k) := by decide +kernel
abbrev cX0_isUnder : ByteArray := prog_2_method_2_code
def yX0_isUnder : MethodName := ⟨RX0, "isUnder", "(II)Z"⟩
abbrev cX0_eats : ByteArray := prog_2_method_3_code
def yX0_eats : MethodName := ⟨RX0, "eats", "(III)I"⟩
abbrev cX0_needs : ByteArray := prog_2_method_4_code
def yX0_needs : MethodName := ⟨RX0, "needs", "(II)I"⟩
abbrev cX0_grows : ByteArray := prog_2_method_5_code
def yX0_grows : MethodName := ⟨RX0, "grows", "(III)I"⟩
abbrev cX0_nameOf : ByteArray := prog_2_method_6_code
def yX0_nameOf : MethodName := ⟨RX0, "nameOf", "(I)Ljava/lang/String;"⟩
def RX1 : String := "RumourBeds$Sheet"
def TX1 : u_T := fun k => match k with
  | 0 => ("RumourBeds$Sheet", "bits", "I", false)
  | 1 => ("RumourBeds$Sheet", "length", "I", false)
  | _ => ("RumourBeds$Sheet", "numbers", "[J", true)
def tyX1 : Nat → FieldType := fun k => match k with
  | 0 => .int
  | 1 => .int
  | _ => .array .long
theorem nmX1 : ∀ a, a < 3 → ∀ b, b < 3 → a ≠ b → (TX1 a).2.1 ≠ (TX1 b).2.1 := by decide +kernel
theorem tyX1_ok : ∀ k, k < 3 → parseFieldDescriptor (TX1 k).2.2.1 = some (tyX1 k) := by decide +kernel
abbrev cX1_init : ByteArray := prog_3_method_1_code
def yX1_init : MethodName := ⟨RX1, "<init>", "()V"⟩
abbrev cX1_isMissing : ByteArray := prog_3_method_2_code
def yX1_isMissing : MethodName := ⟨RX1, "isMissing", "()Z"⟩
abbrev cX1_begin : ByteArray := prog_3_method_3_code
def yX1_begin : MethodName := ⟨RX1, "begin", "(II)V"⟩
abbrev cX1_put : ByteArray := prog_3_method_4_code
def yX1_put : MethodName := ⟨RX1, "put", "(IJ)V"⟩
abbrev cX1_hasRange : ByteArray := prog_3_method_5_code
def yX1_hasRange : MethodName := ⟨RX1, "hasRange", "(II)Z"⟩
def RX2 : String := "RumourBeds$Tape"
def TX2 : u_T := fun k => match k with
  | 0 => ("RumourBeds$Tape", "bytes", "[I", true)
  | 1 => ("RumourBeds$Tape", "length", "I", false)
  | 2 => ("RumourBeds$Tape", "sort", "I", false)
  | 3 => ("RumourBeds$Tape", "first", "I", false)
  | 4 => ("RumourBeds$Tape", "behind", "I", false)
  | _ => ("RumourBeds$Tape", "value", "I", false)
def tyX2 : Nat → FieldType := fun k => match k with
  | 0 => .array .int
  | 1 => .int
  | 2 => .int
  | 3 => .int
  | 4 => .int
  | _ => .int
theorem nmX2 : ∀ a, a < 6 → ∀ b, b < 6 → a ≠ b → (TX2 a).2.1 ≠ (TX2 b).2.1 := by decide +kernel
theorem tyX2_ok : ∀ k, k < 6 → parseFieldDescriptor (TX2 k).2.2.1 = some (tyX2 k) := by decide +kernel
abbrev cX2_init : ByteArray := prog_4_method_1_code
def yX2_init : MethodName := ⟨RX2, "<init>", "()V"⟩
abbrev cX2_addByte : ByteArray := prog_4_method_2_code
def yX2_addByte : MethodName := ⟨RX2, "addByte", "(I)V"⟩
abbrev cX2_tellTo : ByteArray := prog_4_method_3_code
def yX2_tellTo : MethodName := ⟨RX2, "tellTo", "(LRumourBeds$Town;)I"⟩
abbrev cX2_tellItem : ByteArray := prog_4_method_4_code
def yX2_tellItem : MethodName := ⟨RX2, "tellItem", "(LRumourBeds$Town;)Z"⟩
abbrev cX2_tellHouse : ByteArray := prog_4_method_5_code
def yX2_tellHouse : MethodName := ⟨RX2, "tellHouse", "(LRumourBeds$Town;)Z"⟩
abbrev cX2_tellTrue : ByteArray := prog_4_method_6_code
def yX2_tellTrue : MethodName := ⟨RX2, "tellTrue", "(LRumourBeds$Town;)Z"⟩
abbrev cX2_tellRumour : ByteArray := prog_4_method_7_code
def yX2_tellRumour : MethodName := ⟨RX2, "tellRumour", "(LRumourBeds$Town;I)Z"⟩
abbrev cX2_tellPart : ByteArray := prog_4_method_8_code
def yX2_tellPart : MethodName := ⟨RX2, "tellPart", "(Ljava/lang/String;I[II)Z"⟩
abbrev cX2_tellLodging : ByteArray := prog_4_method_9_code
def yX2_tellLodging : MethodName := ⟨RX2, "tellLodging", "(LRumourBeds$Town;I)Z"⟩
abbrev cX2_passNumber : ByteArray := prog_4_method_10_code
def yX2_passNumber : MethodName := ⟨RX2, "passNumber", "(I)I"⟩
abbrev cX2_isNumber : ByteArray := prog_4_method_11_code
def yX2_isNumber : MethodName := ⟨RX2, "isNumber", "(I)Z"⟩
abbrev cX2_isWord : ByteArray := prog_4_method_12_code
def yX2_isWord : MethodName := ⟨RX2, "isWord", "(Ljava/lang/String;)Z"⟩
abbrev cX2_nextToken : ByteArray := prog_4_method_13_code
def yX2_nextToken : MethodName := ⟨RX2, "nextToken", "()V"⟩
abbrev cX2_sortOf : ByteArray := prog_4_method_14_code
def yX2_sortOf : MethodName := ⟨RX2, "sortOf", "(I)I"⟩
def RX3 : String := "RumourBeds$Town"
def TX3 : u_T := fun k => match k with
  | 0 => ("RumourBeds$Town", "beds", "[I", true)
  | 1 => ("RumourBeds$Town", "larders", "[I", true)
  | 2 => ("RumourBeds$Town", "leans", "[I", true)
  | 3 => ("RumourBeds$Town", "lodgers", "[I", true)
  | 4 => ("RumourBeds$Town", "rumours", "I", false)
  | 5 => ("RumourBeds$Town", "kinds", "[I", true)
  | 6 => ("RumourBeds$Town", "events", "[I", true)
  | 7 => ("RumourBeds$Town", "bulks", "[I", true)
  | 8 => ("RumourBeds$Town", "ages", "[I", true)
  | 9 => ("RumourBeds$Town", "places", "[I", true)
  | 10 => ("RumourBeds$Town", "day", "I", false)
  | _ => ("RumourBeds$Town", "trueEvents", "I", false)
def tyX3 : Nat → FieldType := fun k => match k with
  | 0 => .array .int
  | 1 => .array .int
  | 2 => .array .int
  | 3 => .array .int
  | 4 => .int
  | 5 => .array .int
  | 6 => .array .int
  | 7 => .array .int
  | 8 => .array .int
  | 9 => .array .int
  | 10 => .int
  | _ => .int
theorem nmX3 : ∀ a, a < 12 → ∀ b, b < 12 → a ≠ b → (TX3 a).2.1 ≠ (TX3 b).2.1 := by decide +kernel
theorem tyX3_ok : ∀ k, k < 12 → parseFieldDescriptor (TX3 k).2.2.1 = some (tyX3 k) := by decide +kernel
abbrev cX3_init : ByteArray := prog_5_method_1_code
def yX3_init : MethodName := ⟨RX3, "<init>", "()V"⟩
abbrev cX3_becomes : ByteArray := prog_5_method_2_code
def yX3_becomes : MethodName := ⟨RX3, "becomes", "(LRumourBeds$Town;)V"⟩
abbrev cX3_isFull : ByteArray := prog_5_method_3_code
def yX3_isFull : MethodName := ⟨RX3, "isFull", "()Z"⟩
abbrev cX3_addOne : ByteArray := prog_5_method_4_code
def yX3_addOne : MethodName := ⟨RX3, "addOne", "(III)I"⟩
abbrev cX3_eatsOf : ByteArray := prog_5_method_5_code
def yX3_eatsOf : MethodName := ⟨RX3, "eatsOf", "(I)I"⟩
abbrev cX3_needsOf : ByteArray := prog_5_method_6_code
def yX3_needsOf : MethodName := ⟨RX3, "needsOf", "(I)I"⟩
abbrev cX3_growsOf : ByteArray := prog_5_method_7_code
def yX3_growsOf : MethodName := ⟨RX3, "growsOf", "(I)I"⟩
abbrev cX3_isTrue : ByteArray := prog_5_method_8_code
def yX3_isTrue : MethodName := ⟨RX3, "isTrue", "(I)Z"⟩
abbrev cX3_hasBedFree : ByteArray := prog_5_method_9_code
def yX3_hasBedFree : MethodName := ⟨RX3, "hasBedFree", "(I)Z"⟩
abbrev cX3_wouldTake : ByteArray := prog_5_method_10_code
def yX3_wouldTake : MethodName := ⟨RX3, "wouldTake", "(II)Z"⟩
abbrev cX3_hostFor : ByteArray := prog_5_method_11_code
def yX3_hostFor : MethodName := ⟨RX3, "hostFor", "(I)I"⟩
abbrev cX3_lodge : ByteArray := prog_5_method_12_code
def yX3_lodge : MethodName := ⟨RX3, "lodge", "(II)V"⟩
abbrev cX3_improveBy : ByteArray := prog_5_method_13_code
def yX3_improveBy : MethodName := ⟨RX3, "improveBy", "(II)V"⟩
abbrev cX3_becomeTrue : ByteArray := prog_5_method_14_code
def yX3_becomeTrue : MethodName := ⟨RX3, "becomeTrue", "(I)I"⟩
abbrev cX3_passDays : ByteArray := prog_5_method_15_code
def yX3_passDays : MethodName := ⟨RX3, "passDays", "(I)V"⟩
abbrev cX3_passDay : ByteArray := prog_5_method_16_code
def yX3_passDay : MethodName := ⟨RX3, "passDay", "()V"⟩
abbrev cX3_feedOne : ByteArray := prog_5_method_17_code
def yX3_feedOne : MethodName := ⟨RX3, "feedOne", "(I)V"⟩
abbrev cX3_makeThird : ByteArray := prog_5_method_18_code
def yX3_makeThird : MethodName := ⟨RX3, "makeThird", "(I)V"⟩
abbrev cX3_pairedEvent : ByteArray := prog_5_method_19_code
def yX3_pairedEvent : MethodName := ⟨RX3, "pairedEvent", "(I)I"⟩
abbrev cX3_isOnRoad : ByteArray := prog_5_method_20_code
def yX3_isOnRoad : MethodName := ⟨RX3, "isOnRoad", "(I)Z"⟩
abbrev cX3_thoseIn : ByteArray := prog_5_method_21_code
def yX3_thoseIn : MethodName := ⟨RX3, "thoseIn", "(I)I"⟩
abbrev cX3_eventsIn : ByteArray := prog_5_method_22_code
def yX3_eventsIn : MethodName := ⟨RX3, "eventsIn", "(I)I"⟩
abbrev cX3_eatenIn : ByteArray := prog_5_method_23_code
def yX3_eatenIn : MethodName := ⟨RX3, "eatenIn", "(I)I"⟩
abbrev cX3_eatenInAll : ByteArray := prog_5_method_24_code
def yX3_eatenInAll : MethodName := ⟨RX3, "eatenInAll", "()I"⟩
abbrev cX3_bulkOfAll : ByteArray := prog_5_method_25_code
def yX3_bulkOfAll : MethodName := ⟨RX3, "bulkOfAll", "()I"⟩
abbrev cX3_freeBeds : ByteArray := prog_5_method_26_code
def yX3_freeBeds : MethodName := ⟨RX3, "freeBeds", "()I"⟩
def RX4 : String := "RumourBeds"
def TX4 : u_T := fun k => match k with
  | 0 => ("RumourBeds", "street", "LRumourBeds$Town;", true)
  | 1 => ("RumourBeds", "ahead", "LRumourBeds$Town;", true)
  | 2 => ("RumourBeds", "kept", "LRumourBeds$Town;", true)
  | 3 => ("RumourBeds", "isKept", "Z", false)
  | 4 => ("RumourBeds", "tape", "LRumourBeds$Tape;", true)
  | 5 => ("RumourBeds", "sheets", "[LRumourBeds$Sheet;", true)
  | _ => ("RumourBeds", "found", "[I", true)
def tyX4 : Nat → FieldType := fun k => match k with
  | 0 => .object "RumourBeds$Town"
  | 1 => .object "RumourBeds$Town"
  | 2 => .object "RumourBeds$Town"
  | 3 => .boolean
  | 4 => .object "RumourBeds$Tape"
  | 5 => .array (.object "RumourBeds$Sheet")
  | _ => .array .int
theorem nmX4 : ∀ a, a < 7 → ∀ b, b < 7 → a ≠ b → (TX4 a).2.1 ≠ (TX4 b).2.1 := by decide +kernel
theorem tyX4_ok : ∀ k, k < 7 → parseFieldDescriptor (TX4 k).2.2.1 = some (tyX4 k) := by decide +kernel
abbrev cX4_init : ByteArray := prog_1_method_1_code
def yX4_init : MethodName := ⟨RX4, "<init>", "()V"⟩
abbrev cX4_house : ByteArray := prog_1_method_2_code
def yX4_house : MethodName := ⟨RX4, "house", "(III)I"⟩
abbrev cX4_houseOf : ByteArray := prog_1_method_3_code
def yX4_houseOf : MethodName := ⟨RX4, "houseOf", "(II)I"⟩
abbrev cX4_rumour : ByteArray := prog_1_method_4_code
def yX4_rumour : MethodName := ⟨RX4, "rumour", "(II)I"⟩
abbrev cX4_of : ByteArray := prog_1_method_5_code
def yX4_of : MethodName := ⟨RX4, "of", "(II)I"⟩
abbrev cX4_set : ByteArray := prog_1_method_6_code
def yX4_set : MethodName := ⟨RX4, "set", "(III)I"⟩
abbrev cX4_turn : ByteArray := prog_1_method_7_code
def yX4_turn : MethodName := ⟨RX4, "turn", "(II)I"⟩
abbrev cX4_as : ByteArray := prog_1_method_8_code
def yX4_as : MethodName := ⟨RX4, "as", "(II)I"⟩
abbrev cX4_takes : ByteArray := prog_1_method_9_code
def yX4_takes : MethodName := ⟨RX4, "takes", "(II)I"⟩
abbrev cX4_comeIn : ByteArray := prog_1_method_10_code
def yX4_comeIn : MethodName := ⟨RX4, "comeIn", "(I)I"⟩
abbrev cX4_improve : ByteArray := prog_1_method_11_code
def yX4_improve : MethodName := ⟨RX4, "improve", "(II)I"⟩
abbrev cX4_comesTrue : ByteArray := prog_1_method_12_code
def yX4_comesTrue : MethodName := ⟨RX4, "comesTrue", "(I)I"⟩
abbrev cX4_forget : ByteArray := prog_1_method_13_code
def yX4_forget : MethodName := ⟨RX4, "forget", "(I)I"⟩
abbrev cX4_days : ByteArray := prog_1_method_14_code
def yX4_days : MethodName := ⟨RX4, "days", "(I)I"⟩
abbrev cX4_now : ByteArray := prog_1_method_15_code
def yX4_now : MethodName := ⟨RX4, "now", "(I)I"⟩
abbrev cX4_on : ByteArray := prog_1_method_16_code
def yX4_on : MethodName := ⟨RX4, "on", "(III)I"⟩
abbrev cX4_larder : ByteArray := prog_1_method_17_code
def yX4_larder : MethodName := ⟨RX4, "larder", "(II)I"⟩
abbrev cX4_empty : ByteArray := prog_1_method_18_code
def yX4_empty : MethodName := ⟨RX4, "empty", "(I)I"⟩
abbrev cX4_many : ByteArray := prog_1_method_19_code
def yX4_many : MethodName := ⟨RX4, "many", "(I)I"⟩
abbrev cX4_out : ByteArray := prog_1_method_20_code
def yX4_out : MethodName := ⟨RX4, "out", "(I)I"⟩
abbrev cX4_fewest : ByteArray := prog_1_method_21_code
def yX4_fewest : MethodName := ⟨RX4, "fewest", "(II)I"⟩
abbrev cX4_least : ByteArray := prog_1_method_22_code
def yX4_least : MethodName := ⟨RX4, "least", "(I)I"⟩
abbrev cX4_best : ByteArray := prog_1_method_23_code
def yX4_best : MethodName := ⟨RX4, "best", "(I)I"⟩
abbrev cX4_lean : ByteArray := prog_1_method_24_code
def yX4_lean : MethodName := ⟨RX4, "lean", "(II)I"⟩
abbrev cX4_leanFor : ByteArray := prog_1_method_25_code
def yX4_leanFor : MethodName := ⟨RX4, "leanFor", "(II)I"⟩
abbrev cX4_kind : ByteArray := prog_1_method_26_code
def yX4_kind : MethodName := ⟨RX4, "kind", "(I)I"⟩
abbrev cX4_host : ByteArray := prog_1_method_27_code
def yX4_host : MethodName := ⟨RX4, "host", "(I)I"⟩
abbrev cX4_beds : ByteArray := prog_1_method_28_code
def yX4_beds : MethodName := ⟨RX4, "beds", "(II)I"⟩
abbrev cX4_feed : ByteArray := prog_1_method_29_code
def yX4_feed : MethodName := ⟨RX4, "feed", "(II)I"⟩
abbrev cX4_wipe : ByteArray := prog_1_method_30_code
def yX4_wipe : MethodName := ⟨RX4, "wipe", "()I"⟩
abbrev cX4_town : ByteArray := prog_1_method_31_code
def yX4_town : MethodName := ⟨RX4, "town", "()I"⟩
abbrev cX4_sheet : ByteArray := prog_1_method_32_code
def yX4_sheet : MethodName := ⟨RX4, "sheet", "(III)I"⟩
abbrev cX4_write : ByteArray := prog_1_method_33_code
def yX4_write : MethodName := ⟨RX4, "write", "(IIJ)J"⟩
abbrev cX4_copy : ByteArray := prog_1_method_34_code
def yX4_copy : MethodName := ⟨RX4, "copy", "(IIIII)I"⟩
abbrev cX4_lays : ByteArray := prog_1_method_35_code
def yX4_lays : MethodName := ⟨RX4, "lays", "(I)I"⟩
abbrev cX4_book : ByteArray := prog_1_method_36_code
def yX4_book : MethodName := ⟨RX4, "book", "(II)I"⟩
abbrev cX4_read : ByteArray := prog_1_method_37_code
def yX4_read : MethodName := ⟨RX4, "read", "(II)I"⟩
abbrev cX4_image : ByteArray := prog_1_method_38_code
def yX4_image : MethodName := ⟨RX4, "image", "()I"⟩
abbrev cX4_undo : ByteArray := prog_1_method_39_code
def yX4_undo : MethodName := ⟨RX4, "undo", "()I"⟩
abbrev cX4_tear : ByteArray := prog_1_method_40_code
def yX4_tear : MethodName := ⟨RX4, "tear", "()I"⟩
abbrev cX4_count : ByteArray := prog_1_method_41_code
def yX4_count : MethodName := ⟨RX4, "count", "(I)I"⟩
abbrev cX4_status : ByteArray := prog_1_method_42_code
def yX4_status : MethodName := ⟨RX4, "status", "(I)I"⟩
abbrev cX4_finding : ByteArray := prog_1_method_43_code
def yX4_finding : MethodName := ⟨RX4, "finding", "(I)I"⟩
abbrev cX4_isWithin : ByteArray := prog_1_method_44_code
def yX4_isWithin : MethodName := ⟨RX4, "isWithin", "(II)Z"⟩
abbrev cX4_isHouse : ByteArray := prog_1_method_45_code
def yX4_isHouse : MethodName := ⟨RX4, "isHouse", "(I)Z"⟩
abbrev cX4_isKind : ByteArray := prog_1_method_46_code
def yX4_isKind : MethodName := ⟨RX4, "isKind", "(I)Z"⟩
abbrev cX4_isEvent : ByteArray := prog_1_method_47_code
def yX4_isEvent : MethodName := ⟨RX4, "isEvent", "(I)Z"⟩
abbrev cX4_isSheet : ByteArray := prog_1_method_48_code
def yX4_isSheet : MethodName := ⟨RX4, "isSheet", "(I)Z"⟩
abbrev cX4_isRumour : ByteArray := prog_1_method_49_code
def yX4_isRumour : MethodName := ⟨RX4, "isRumour", "(I)Z"⟩
abbrev cX4_mostOfHouse : ByteArray := prog_1_method_50_code
def yX4_mostOfHouse : MethodName := ⟨RX4, "mostOfHouse", "(I)I"⟩
abbrev cX4_mostOfRumour : ByteArray := prog_1_method_51_code
def yX4_mostOfRumour : MethodName := ⟨RX4, "mostOfRumour", "(I)I"⟩
abbrev cX4_sumOf : ByteArray := prog_1_method_52_code
def yX4_sumOf : MethodName := ⟨RX4, "sumOf", "([I)I"⟩
abbrev cX4_findingOfBook : ByteArray := prog_1_method_53_code
def yX4_findingOfBook : MethodName := ⟨RX4, "findingOfBook", "(II)I"⟩
abbrev cX4_isBookOf : ByteArray := prog_1_method_54_code
def yX4_isBookOf : MethodName := ⟨RX4, "isBookOf", "(LRumourBeds$Sheet;I)Z"⟩
def RX5 : String := "RumourBedsModel"
def TX5 : u_T := fun k => match k with
  | 0 => ("RumourBedsModel", "s", "[I", true)
  | 1 => ("RumourBedsModel", "keptS", "[I", true)
  | 2 => ("RumourBedsModel", "other", "[I", true)
  | 3 => ("RumourBedsModel", "aside", "[I", true)
  | 4 => ("RumourBedsModel", "statuses", "[I", true)
  | 5 => ("RumourBedsModel", "isKept", "Z", false)
  | 6 => ("RumourBedsModel", "tape", "[I", true)
  | 7 => ("RumourBedsModel", "taped", "I", false)
  | 8 => ("RumourBedsModel", "from", "I", false)
  | 9 => ("RumourBedsModel", "to", "I", false)
  | 10 => ("RumourBedsModel", "value", "I", false)
  | 11 => ("RumourBedsModel", "isWrong", "Z", false)
  | 12 => ("RumourBedsModel", "bitsOf", "[I", true)
  | 13 => ("RumourBedsModel", "sizeOf", "[I", true)
  | 14 => ("RumourBedsModel", "numbers", "[J", true)
  | _ => ("RumourBedsModel", "moved", "[J", true)
def tyX5 : Nat → FieldType := fun k => match k with
  | 0 => .array .int
  | 1 => .array .int
  | 2 => .array .int
  | 3 => .array .int
  | 4 => .array .int
  | 5 => .boolean
  | 6 => .array .int
  | 7 => .int
  | 8 => .int
  | 9 => .int
  | 10 => .int
  | 11 => .boolean
  | 12 => .array .int
  | 13 => .array .int
  | 14 => .array .long
  | _ => .array .long
theorem nmX5 : ∀ a, a < 16 → ∀ b, b < 16 → a ≠ b → (TX5 a).2.1 ≠ (TX5 b).2.1 := by decide +kernel
theorem tyX5_ok : ∀ k, k < 16 → parseFieldDescriptor (TX5 k).2.2.1 = some (tyX5 k) := by decide +kernel
abbrev cX5_init : ByteArray := prog_7_method_1_code
def yX5_init : MethodName := ⟨RX5, "<init>", "()V"⟩
abbrev cX5_in : ByteArray := prog_7_method_2_code
def yX5_in : MethodName := ⟨RX5, "in", "(JJJ)Z"⟩
abbrev cX5_finds : ByteArray := prog_7_method_3_code
def yX5_finds : MethodName := ⟨RX5, "finds", "(I)I"⟩
abbrev cX5_saves : ByteArray := prog_7_method_4_code
def yX5_saves : MethodName := ⟨RX5, "saves", "()V"⟩
abbrev cX5_putsBack : ByteArray := prog_7_method_5_code
def yX5_putsBack : MethodName := ⟨RX5, "putsBack", "()V"⟩
abbrev cX5_laysAside : ByteArray := prog_7_method_6_code
def yX5_laysAside : MethodName := ⟨RX5, "laysAside", "()V"⟩
abbrev cX5_takesBack : ByteArray := prog_7_method_7_code
def yX5_takesBack : MethodName := ⟨RX5, "takesBack", "(I)I"⟩
abbrev cX5_becomes : ByteArray := prog_7_method_8_code
def yX5_becomes : MethodName := ⟨RX5, "becomes", "(II)I"⟩
abbrev cX5_isHouse : ByteArray := prog_7_method_9_code
def yX5_isHouse : MethodName := ⟨RX5, "isHouse", "(I)Z"⟩
abbrev cX5_isRumour : ByteArray := prog_7_method_10_code
def yX5_isRumour : MethodName := ⟨RX5, "isRumour", "(I)Z"⟩
abbrev cX5_isKind : ByteArray := prog_7_method_11_code
def yX5_isKind : MethodName := ⟨RX5, "isKind", "(I)Z"⟩
abbrev cX5_isEvent : ByteArray := prog_7_method_12_code
def yX5_isEvent : MethodName := ⟨RX5, "isEvent", "(I)Z"⟩
abbrev cX5_partOf : ByteArray := prog_7_method_13_code
def yX5_partOf : MethodName := ⟨RX5, "partOf", "(II)I"⟩
abbrev cX5_spotOf : ByteArray := prog_7_method_14_code
def yX5_spotOf : MethodName := ⟨RX5, "spotOf", "(II)I"⟩
abbrev cX5_its : ByteArray := prog_7_method_15_code
def yX5_its : MethodName := ⟨RX5, "its", "(II)I"⟩
abbrev cX5_has : ByteArray := prog_7_method_16_code
def yX5_has : MethodName := ⟨RX5, "has", "(II)I"⟩
abbrev cX5_house : ByteArray := prog_7_method_17_code
def yX5_house : MethodName := ⟨RX5, "house", "(III)I"⟩
abbrev cX5_thoseAt : ByteArray := prog_7_method_18_code
def yX5_thoseAt : MethodName := ⟨RX5, "thoseAt", "(I)I"⟩
abbrev cX5_ones : ByteArray := prog_7_method_19_code
def yX5_ones : MethodName := ⟨RX5, "ones", "(I)I"⟩
abbrev cX5_eventsAt : ByteArray := prog_7_method_20_code
def yX5_eventsAt : MethodName := ⟨RX5, "eventsAt", "(I)I"⟩
abbrev cX5_eatenAt : ByteArray := prog_7_method_21_code
def yX5_eatenAt : MethodName := ⟨RX5, "eatenAt", "(I)I"⟩
abbrev cX5_houseOf : ByteArray := prog_7_method_22_code
def yX5_houseOf : MethodName := ⟨RX5, "houseOf", "(II)I"⟩
abbrev cX5_adds : ByteArray := prog_7_method_23_code
def yX5_adds : MethodName := ⟨RX5, "adds", "(II)I"⟩
abbrev cX5_rumour : ByteArray := prog_7_method_24_code
def yX5_rumour : MethodName := ⟨RX5, "rumour", "(II)I"⟩
abbrev cX5_eats : ByteArray := prog_7_method_25_code
def yX5_eats : MethodName := ⟨RX5, "eats", "(I)I"⟩
abbrev cX5_needs : ByteArray := prog_7_method_26_code
def yX5_needs : MethodName := ⟨RX5, "needs", "(I)I"⟩
abbrev cX5_grows : ByteArray := prog_7_method_27_code
def yX5_grows : MethodName := ⟨RX5, "grows", "(I)I"⟩
abbrev cX5_of : ByteArray := prog_7_method_28_code
def yX5_of : MethodName := ⟨RX5, "of", "(II)I"⟩
abbrev cX5_set : ByteArray := prog_7_method_29_code
def yX5_set : MethodName := ⟨RX5, "set", "(III)I"⟩
abbrev cX5_turn : ByteArray := prog_7_method_30_code
def yX5_turn : MethodName := ⟨RX5, "turn", "(II)I"⟩
abbrev cX5_isUnder : ByteArray := prog_7_method_31_code
def yX5_isUnder : MethodName := ⟨RX5, "isUnder", "(II)Z"⟩
abbrev cX5_as : ByteArray := prog_7_method_32_code
def yX5_as : MethodName := ⟨RX5, "as", "(II)I"⟩
abbrev cX5_isFree : ByteArray := prog_7_method_33_code
def yX5_isFree : MethodName := ⟨RX5, "isFree", "(I)Z"⟩
abbrev cX5_isTaken : ByteArray := prog_7_method_34_code
def yX5_isTaken : MethodName := ⟨RX5, "isTaken", "(II)Z"⟩
abbrev cX5_takes : ByteArray := prog_7_method_35_code
def yX5_takes : MethodName := ⟨RX5, "takes", "(II)I"⟩
abbrev cX5_isTrue : ByteArray := prog_7_method_36_code
def yX5_isTrue : MethodName := ⟨RX5, "isTrue", "(I)Z"⟩
abbrev cX5_hostOf : ByteArray := prog_7_method_37_code
def yX5_hostOf : MethodName := ⟨RX5, "hostOf", "(I)I"⟩
abbrev cX5_comeIn : ByteArray := prog_7_method_38_code
def yX5_comeIn : MethodName := ⟨RX5, "comeIn", "(I)I"⟩
abbrev cX5_heldTo : ByteArray := prog_7_method_39_code
def yX5_heldTo : MethodName := ⟨RX5, "heldTo", "(II)I"⟩
abbrev cX5_isImproved : ByteArray := prog_7_method_40_code
def yX5_isImproved : MethodName := ⟨RX5, "isImproved", "(II)V"⟩
abbrev cX5_improve : ByteArray := prog_7_method_41_code
def yX5_improve : MethodName := ⟨RX5, "improve", "(II)I"⟩
abbrev cX5_becomesTrue : ByteArray := prog_7_method_42_code
def yX5_becomesTrue : MethodName := ⟨RX5, "becomesTrue", "(I)I"⟩
abbrev cX5_comesTrue : ByteArray := prog_7_method_43_code
def yX5_comesTrue : MethodName := ⟨RX5, "comesTrue", "(I)I"⟩
abbrev cX5_forget : ByteArray := prog_7_method_44_code
def yX5_forget : MethodName := ⟨RX5, "forget", "(I)I"⟩
abbrev cX5_feeds : ByteArray := prog_7_method_45_code
def yX5_feeds : MethodName := ⟨RX5, "feeds", "(I)V"⟩
abbrev cX5_isOnRoad : ByteArray := prog_7_method_46_code
def yX5_isOnRoad : MethodName := ⟨RX5, "isOnRoad", "(I)Z"⟩
abbrev cX5_lodgersOf : ByteArray := prog_7_method_47_code
def yX5_lodgersOf : MethodName := ⟨RX5, "lodgersOf", "(II)I"⟩
abbrev cX5_makesThird : ByteArray := prog_7_method_48_code
def yX5_makesThird : MethodName := ⟨RX5, "makesThird", "(I)V"⟩
abbrev cX5_day : ByteArray := prog_7_method_49_code
def yX5_day : MethodName := ⟨RX5, "day", "()V"⟩
abbrev cX5_daysGo : ByteArray := prog_7_method_50_code
def yX5_daysGo : MethodName := ⟨RX5, "daysGo", "(I)V"⟩
abbrev cX5_days : ByteArray := prog_7_method_51_code
def yX5_days : MethodName := ⟨RX5, "days", "(I)I"⟩
abbrev cX5_larders : ByteArray := prog_7_method_52_code
def yX5_larders : MethodName := ⟨RX5, "larders", "()I"⟩
abbrev cX5_bulks : ByteArray := prog_7_method_53_code
def yX5_bulks : MethodName := ⟨RX5, "bulks", "()I"⟩
abbrev cX5_freeBeds : ByteArray := prog_7_method_54_code
def yX5_freeBeds : MethodName := ⟨RX5, "freeBeds", "()I"⟩
abbrev cX5_eaten : ByteArray := prog_7_method_55_code
def yX5_eaten : MethodName := ⟨RX5, "eaten", "()I"⟩
abbrev cX5_now : ByteArray := prog_7_method_56_code
def yX5_now : MethodName := ⟨RX5, "now", "(I)I"⟩
abbrev cX5_isAhead : ByteArray := prog_7_method_57_code
def yX5_isAhead : MethodName := ⟨RX5, "isAhead", "(I)Z"⟩
abbrev cX5_behind : ByteArray := prog_7_method_58_code
def yX5_behind : MethodName := ⟨RX5, "behind", "(II)I"⟩
abbrev cX5_on : ByteArray := prog_7_method_59_code
def yX5_on : MethodName := ⟨RX5, "on", "(III)I"⟩
abbrev cX5_larder : ByteArray := prog_7_method_60_code
def yX5_larder : MethodName := ⟨RX5, "larder", "(II)I"⟩
abbrev cX5_firstAs : ByteArray := prog_7_method_61_code
def yX5_firstAs : MethodName := ⟨RX5, "firstAs", "(II)I"⟩
abbrev cX5_empty : ByteArray := prog_7_method_62_code
def yX5_empty : MethodName := ⟨RX5, "empty", "(I)I"⟩
abbrev cX5_many : ByteArray := prog_7_method_63_code
def yX5_many : MethodName := ⟨RX5, "many", "(I)I"⟩
abbrev cX5_out : ByteArray := prog_7_method_64_code
def yX5_out : MethodName := ⟨RX5, "out", "(I)I"⟩
abbrev cX5_wrongLodger : ByteArray := prog_7_method_65_code
def yX5_wrongLodger : MethodName := ⟨RX5, "wrongLodger", "(I)I"⟩
abbrev cX5_fewest : ByteArray := prog_7_method_66_code
def yX5_fewest : MethodName := ⟨RX5, "fewest", "(II)I"⟩
abbrev cX5_least : ByteArray := prog_7_method_67_code
def yX5_least : MethodName := ⟨RX5, "least", "(I)I"⟩
abbrev cX5_isSoon : ByteArray := prog_7_method_68_code
def yX5_isSoon : MethodName := ⟨RX5, "isSoon", "(I)Z"⟩
abbrev cX5_best : ByteArray := prog_7_method_69_code
def yX5_best : MethodName := ⟨RX5, "best", "(I)I"⟩
abbrev cX5_lean : ByteArray := prog_7_method_70_code
def yX5_lean : MethodName := ⟨RX5, "lean", "(II)I"⟩
abbrev cX5_leanFor : ByteArray := prog_7_method_71_code
def yX5_leanFor : MethodName := ⟨RX5, "leanFor", "(II)I"⟩
abbrev cX5_kind : ByteArray := prog_7_method_72_code
def yX5_kind : MethodName := ⟨RX5, "kind", "(I)I"⟩
abbrev cX5_host : ByteArray := prog_7_method_73_code
def yX5_host : MethodName := ⟨RX5, "host", "(I)I"⟩
abbrev cX5_beds : ByteArray := prog_7_method_74_code
def yX5_beds : MethodName := ⟨RX5, "beds", "(II)I"⟩
abbrev cX5_feed : ByteArray := prog_7_method_75_code
def yX5_feed : MethodName := ⟨RX5, "feed", "(II)I"⟩
abbrev cX5_wipe : ByteArray := prog_7_method_76_code
def yX5_wipe : MethodName := ⟨RX5, "wipe", "()I"⟩
abbrev cX5_byteAt : ByteArray := prog_7_method_77_code
def yX5_byteAt : MethodName := ⟨RX5, "byteAt", "(I)I"⟩
abbrev cX5_isLetter : ByteArray := prog_7_method_78_code
def yX5_isLetter : MethodName := ⟨RX5, "isLetter", "(I)Z"⟩
abbrev cX5_isDigit : ByteArray := prog_7_method_79_code
def yX5_isDigit : MethodName := ⟨RX5, "isDigit", "(I)Z"⟩
abbrev cX5_token : ByteArray := prog_7_method_80_code
def yX5_token : MethodName := ⟨RX5, "token", "()V"⟩
abbrev cX5_must : ByteArray := prog_7_method_81_code
def yX5_must : MethodName := ⟨RX5, "must", "(Z)V"⟩
abbrev cX5_word : ByteArray := prog_7_method_82_code
def yX5_word : MethodName := ⟨RX5, "word", "()J"⟩
abbrev cX5_number : ByteArray := prog_7_method_83_code
def yX5_number : MethodName := ⟨RX5, "number", "(II)V"⟩
abbrev cX5_kindHere : ByteArray := prog_7_method_84_code
def yX5_kindHere : MethodName := ⟨RX5, "kindHere", "()I"⟩
abbrev cX5_partItem : ByteArray := prog_7_method_85_code
def yX5_partItem : MethodName := ⟨RX5, "partItem", "(JII)V"⟩
abbrev cX5_peeked : ByteArray := prog_7_method_86_code
def yX5_peeked : MethodName := ⟨RX5, "peeked", "()I"⟩
abbrev cX5_rumourItem : ByteArray := prog_7_method_87_code
def yX5_rumourItem : MethodName := ⟨RX5, "rumourItem", "(I)V"⟩
abbrev cX5_houseItem : ByteArray := prog_7_method_88_code
def yX5_houseItem : MethodName := ⟨RX5, "houseItem", "()V"⟩
abbrev cX5_item : ByteArray := prog_7_method_89_code
def yX5_item : MethodName := ⟨RX5, "item", "()V"⟩
abbrev cX5_town : ByteArray := prog_7_method_90_code
def yX5_town : MethodName := ⟨RX5, "town", "()I"⟩
abbrev cX5_isOne : ByteArray := prog_7_method_91_code
def yX5_isOne : MethodName := ⟨RX5, "isOne", "(I)Z"⟩
abbrev cX5_sheet : ByteArray := prog_7_method_92_code
def yX5_sheet : MethodName := ⟨RX5, "sheet", "(III)I"⟩
abbrev cX5_narrowed : ByteArray := prog_7_method_93_code
def yX5_narrowed : MethodName := ⟨RX5, "narrowed", "(IJ)J"⟩
abbrev cX5_wrongSheet : ByteArray := prog_7_method_94_code
def yX5_wrongSheet : MethodName := ⟨RX5, "wrongSheet", "(I)I"⟩
abbrev cX5_write : ByteArray := prog_7_method_95_code
def yX5_write : MethodName := ⟨RX5, "write", "(IIJ)J"⟩
abbrev cX5_copy : ByteArray := prog_7_method_96_code
def yX5_copy : MethodName := ⟨RX5, "copy", "(IIIII)I"⟩
abbrev cX5_lays : ByteArray := prog_7_method_97_code
def yX5_lays : MethodName := ⟨RX5, "lays", "(I)I"⟩
abbrev cX5_wrongBook : ByteArray := prog_7_method_98_code
def yX5_wrongBook : MethodName := ⟨RX5, "wrongBook", "(II)I"⟩
abbrev cX5_book : ByteArray := prog_7_method_99_code
def yX5_book : MethodName := ⟨RX5, "book", "(II)I"⟩
abbrev cX5_isBook : ByteArray := prog_7_method_100_code
def yX5_isBook : MethodName := ⟨RX5, "isBook", "(II)Z"⟩
abbrev cX5_read : ByteArray := prog_7_method_101_code
def yX5_read : MethodName := ⟨RX5, "read", "(II)I"⟩
abbrev cX5_image : ByteArray := prog_7_method_102_code
def yX5_image : MethodName := ⟨RX5, "image", "()I"⟩
abbrev cX5_undo : ByteArray := prog_7_method_103_code
def yX5_undo : MethodName := ⟨RX5, "undo", "()I"⟩
abbrev cX5_tear : ByteArray := prog_7_method_104_code
def yX5_tear : MethodName := ⟨RX5, "tear", "()I"⟩
abbrev cX5_bedsAll : ByteArray := prog_7_method_105_code
def yX5_bedsAll : MethodName := ⟨RX5, "bedsAll", "()I"⟩
abbrev cX5_count : ByteArray := prog_7_method_106_code
def yX5_count : MethodName := ⟨RX5, "count", "(I)I"⟩
abbrev cX5_status : ByteArray := prog_7_method_107_code
def yX5_status : MethodName := ⟨RX5, "status", "(I)I"⟩
def RJ9 : String := "java/lang/Math"
def TJ9 : u_T := fun k => match k with
  | _ => ("", "", "", false)
def tyJ9 : Nat → FieldType := fun k => match k with
  | _ => .int
theorem nmJ9 : ∀ a, a < 0 → ∀ b, b < 0 → a ≠ b → (TJ9 a).2.1 ≠ (TJ9 b).2.1 := by decide +kernel
theorem tyJ9_ok : ∀ k, k < 0 → parseFieldDescriptor (TJ9 k).2.2.1 = some (tyJ9 k) := by decide +kernel
abbrev cJ9_max_7cf53 : ByteArray := prog_8_method_65_code
def yJ9_max_7cf53 : MethodName := ⟨RJ9, "max", "(II)I"⟩
abbrev cJ9_min_7cf53 : ByteArray := prog_8_method_69_code
def yJ9_min_7cf53 : MethodName := ⟨RJ9, "min", "(II)I"⟩
def RJ0 : String := "java/lang/String"
def TJ0 : u_T := fun k => match k with
  | _ => ("", "", "", false)
def tyJ0 : Nat → FieldType := fun k => match k with
  | _ => .int
theorem nmJ0 : ∀ a, a < 0 → ∀ b, b < 0 → a ≠ b → (TJ0 a).2.1 ≠ (TJ0 b).2.1 := by decide +kernel
theorem tyJ0_ok : ∀ k, k < 0 → parseFieldDescriptor (TJ0 k).2.2.1 = some (tyJ0 k) := by decide +kernel
abbrev cJ0_length_8abf5 : ByteArray := prog_9_method_54_code
def yJ0_length_8abf5 : MethodName := ⟨RJ0, "length", "()I"⟩
abbrev cJ0_charAt_5068e : ByteArray := prog_9_method_56_code
def yJ0_charAt_5068e : MethodName := ⟨RJ0, "charAt", "(I)C"⟩
abbrev cJ0_coder_7d493 : ByteArray := prog_9_method_152_code
def yJ0_coder_7d493 : MethodName := ⟨RJ0, "coder", "()B"⟩
abbrev cJ0_isLatin1_aae02 : ByteArray := prog_9_method_154_code
def yJ0_isLatin1_aae02 : MethodName := ⟨RJ0, "isLatin1", "()Z"⟩
abbrev cJ0_checkIndex_df160 : ByteArray := prog_9_method_155_code
def yJ0_checkIndex_df160 : MethodName := ⟨RJ0, "checkIndex", "(II)V"⟩
def RJ1 : String := "java/lang/StringLatin1"
def TJ1 : u_T := fun k => match k with
  | _ => ("", "", "", false)
def tyJ1 : Nat → FieldType := fun k => match k with
  | _ => .int
theorem nmJ1 : ∀ a, a < 0 → ∀ b, b < 0 → a ≠ b → (TJ1 a).2.1 ≠ (TJ1 b).2.1 := by decide +kernel
theorem tyJ1_ok : ∀ k, k < 0 → parseFieldDescriptor (TJ1 k).2.2.1 = some (tyJ1 k) := by decide +kernel
abbrev cJ1_charAt_3b067 : ByteArray := prog_10_method_2_code
def yJ1_charAt_3b067 : MethodName := ⟨RJ1, "charAt", "([BI)C"⟩
def RJ2 : String := "java/lang/StringUTF16"
def TJ2 : u_T := fun k => match k with
  | _ => ("", "", "", false)
def tyJ2 : Nat → FieldType := fun k => match k with
  | _ => .int
theorem nmJ2 : ∀ a, a < 0 → ∀ b, b < 0 → a ≠ b → (TJ2 a).2.1 ≠ (TJ2 b).2.1 := by decide +kernel
theorem tyJ2_ok : ∀ k, k < 0 → parseFieldDescriptor (TJ2 k).2.2.1 = some (tyJ2 k) := by decide +kernel
abbrev cJ2_getChar_3b067 : ByteArray := prog_11_method_5_code
def yJ2_getChar_3b067 : MethodName := ⟨RJ2, "getChar", "([BI)C"⟩
abbrev cJ2_length_9d52b : ByteArray := prog_11_method_6_code
def yJ2_length_9d52b : MethodName := ⟨RJ2, "length", "([B)I"⟩
abbrev cJ2_charAt_3b067 : ByteArray := prog_11_method_83_code
def yJ2_charAt_3b067 : MethodName := ⟨RJ2, "charAt", "([BI)C"⟩
abbrev cJ2_checkIndex_2214a : ByteArray := prog_11_method_91_code
def yJ2_checkIndex_2214a : MethodName := ⟨RJ2, "checkIndex", "(I[B)V"⟩
def RJ10 : String := "java/lang/System"
def TJ10 : u_T := fun k => match k with
  | _ => ("", "", "", false)
def tyJ10 : Nat → FieldType := fun k => match k with
  | _ => .int
theorem nmJ10 : ∀ a, a < 0 → ∀ b, b < 0 → a ≠ b → (TJ10 a).2.1 ≠ (TJ10 b).2.1 := by decide +kernel
theorem tyJ10_ok : ∀ k, k < 0 → parseFieldDescriptor (TJ10 k).2.2.1 = some (tyJ10 k) := by decide +kernel
def RJ3 : String := "jdk/internal/util/Preconditions"
def TJ3 : u_T := fun k => match k with
  | _ => ("", "", "", false)
def tyJ3 : Nat → FieldType := fun k => match k with
  | _ => .int
theorem nmJ3 : ∀ a, a < 0 → ∀ b, b < 0 → a ≠ b → (TJ3 a).2.1 ≠ (TJ3 b).2.1 := by decide +kernel
theorem tyJ3_ok : ∀ k, k < 0 → parseFieldDescriptor (TJ3 k).2.2.1 = some (tyJ3 k) := by decide +kernel
abbrev cJ3_checkIndex_8e157 : ByteArray := prog_13_method_11_code
def yJ3_checkIndex_8e157 : MethodName := ⟨RJ3, "checkIndex", "(IILjava/util/function/BiFunction;)I"⟩
def RL : String := "RumourBedsLaw"
abbrev cL_law : ByteArray := code
def yL_law : MethodName := ⟨RL, "law", "([I)Z"⟩
abbrev vwCl : List vw_C := [(RX1, TX1, 3), (RX2, TX2, 6), (RX3, TX3, 12), (RX4, TX4, 7), (RX5, TX5, 16)]
end
section
theorem dX0_isUnder_0 : decode cX0_isUnder 0 = .ok (.iload_n 0, 1) := by decide +kernel
theorem dX0_isUnder_1 : decode cX0_isUnder 1 = .ok (.istore_n 2, 1) := by decide +kernel
theorem dX0_isUnder_2 : decode cX0_isUnder 2 = .ok (.iconst 0, 1) := by decide +kernel
theorem dX0_isUnder_3 : decode cX0_isUnder 3 = .ok (.istore_n 3, 1) := by decide +kernel
theorem dX0_isUnder_4 : decode cX0_isUnder 4 = .ok (.iload_n 3, 1) := by decide +kernel
theorem dX0_isUnder_5 : decode cX0_isUnder 5 = .ok (.bipush 6, 2) := by decide +kernel
theorem dX0_isUnder_7 : decode cX0_isUnder 7 = .ok (.if_icmp .ge 32, 3) := by decide +kernel
theorem dX0_isUnder_10 : decode cX0_isUnder 10 = .ok (.iload_n 2, 1) := by decide +kernel
theorem dX0_isUnder_11 : decode cX0_isUnder 11 = .ok (.ifCond .lt 28, 3) := by decide +kernel
theorem dX0_isUnder_14 : decode cX0_isUnder 14 = .ok (.iload_n 2, 1) := by decide +kernel
theorem dX0_isUnder_15 : decode cX0_isUnder 15 = .ok (.bipush 6, 2) := by decide +kernel
theorem dX0_isUnder_17 : decode cX0_isUnder 17 = .ok (.if_icmp .ge 22, 3) := by decide +kernel
theorem dX0_isUnder_20 : decode cX0_isUnder 20 = .ok (.iload_n 2, 1) := by decide +kernel
theorem dX0_isUnder_21 : decode cX0_isUnder 21 = .ok (.iload_n 1, 1) := by decide +kernel
theorem dX0_isUnder_22 : decode cX0_isUnder 22 = .ok (.if_icmp .ne 5, 3) := by decide +kernel
theorem dX0_isUnder_25 : decode cX0_isUnder 25 = .ok (.iconst 1, 1) := by decide +kernel
theorem dX0_isUnder_26 : decode cX0_isUnder 26 = .ok (.ireturn, 1) := by decide +kernel
theorem dX0_isUnder_27 : decode cX0_isUnder 27 = .ok (.getstatic 9, 3) := by decide +kernel
theorem dX0_isUnder_30 : decode cX0_isUnder 30 = .ok (.iload_n 2, 1) := by decide +kernel
theorem dX0_isUnder_31 : decode cX0_isUnder 31 = .ok (.iaload, 1) := by decide +kernel
theorem dX0_isUnder_32 : decode cX0_isUnder 32 = .ok (.istore_n 2, 1) := by decide +kernel
theorem dX0_isUnder_33 : decode cX0_isUnder 33 = .ok (.iinc 3 1, 3) := by decide +kernel
theorem dX0_isUnder_36 : decode cX0_isUnder 36 = .ok (.goto (-32), 3) := by decide +kernel
theorem dX0_isUnder_39 : decode cX0_isUnder 39 = .ok (.iconst 0, 1) := by decide +kernel
theorem dX0_isUnder_40 : decode cX0_isUnder 40 = .ok (.ireturn, 1) := by decide +kernel
theorem dX0_eats_0 : decode cX0_eats 0 = .ok (.iload_n 1, 1) := by decide +kernel
theorem dX0_eats_1 : decode cX0_eats 1 = .ok (.bipush 10, 2) := by decide +kernel
theorem dX0_eats_3 : decode cX0_eats 3 = .ok (.idiv, 1) := by decide +kernel
theorem dX0_eats_4 : decode cX0_eats 4 = .ok (.iconst 1, 1) := by decide +kernel
theorem dX0_eats_5 : decode cX0_eats 5 = .ok (.iadd, 1) := by decide +kernel
theorem dX0_eats_6 : decode cX0_eats 6 = .ok (.istore_n 3, 1) := by decide +kernel
theorem dX0_eats_7 : decode cX0_eats 7 = .ok (.iconst 2, 1) := by decide +kernel
theorem dX0_eats_8 : decode cX0_eats 8 = .ok (.iload_n 3, 1) := by decide +kernel
theorem dX0_eats_9 : decode cX0_eats 9 = .ok (.imul, 1) := by decide +kernel
theorem dX0_eats_10 : decode cX0_eats 10 = .ok (.istore 4, 2) := by decide +kernel
theorem dX0_eats_12 : decode cX0_eats 12 = .ok (.iconst 1, 1) := by decide +kernel
theorem dX0_eats_13 : decode cX0_eats 13 = .ok (.istore 5, 2) := by decide +kernel
theorem dX0_eats_15 : decode cX0_eats 15 = .ok (.iload_n 0, 1) := by decide +kernel
theorem dX0_eats_16 : decode cX0_eats 16 = .ok (.tableswitch 63 1 5 #[36, 39, 42, 53, 58], 36) := by decide +kernel
theorem dX0_eats_52 : decode cX0_eats 52 = .ok (.iload 4, 2) := by decide +kernel
theorem dX0_eats_54 : decode cX0_eats 54 = .ok (.ireturn, 1) := by decide +kernel
theorem dX0_eats_55 : decode cX0_eats 55 = .ok (.iload 5, 2) := by decide +kernel
theorem dX0_eats_57 : decode cX0_eats 57 = .ok (.ireturn, 1) := by decide +kernel
theorem dX0_eats_58 : decode cX0_eats 58 = .ok (.iconst 0, 1) := by decide +kernel
theorem dX0_eats_59 : decode cX0_eats 59 = .ok (.iload_n 3, 1) := by decide +kernel
theorem dX0_eats_60 : decode cX0_eats 60 = .ok (.iload_n 2, 1) := by decide +kernel
theorem dX0_eats_61 : decode cX0_eats 61 = .ok (.bipush 10, 2) := by decide +kernel
theorem dX0_eats_63 : decode cX0_eats 63 = .ok (.idiv, 1) := by decide +kernel
theorem dX0_eats_64 : decode cX0_eats 64 = .ok (.isub, 1) := by decide +kernel
theorem dX0_eats_65 : decode cX0_eats 65 = .ok (.invokestatic 13, 3) := by decide +kernel
theorem dX0_eats_68 : decode cX0_eats 68 = .ok (.ireturn, 1) := by decide +kernel
theorem dX0_eats_69 : decode cX0_eats 69 = .ok (.iload 4, 2) := by decide +kernel
theorem dX0_eats_71 : decode cX0_eats 71 = .ok (.iconst 3, 1) := by decide +kernel
theorem dX0_eats_72 : decode cX0_eats 72 = .ok (.iadd, 1) := by decide +kernel
theorem dX0_eats_73 : decode cX0_eats 73 = .ok (.ireturn, 1) := by decide +kernel
theorem dX0_eats_74 : decode cX0_eats 74 = .ok (.iload 5, 2) := by decide +kernel
theorem dX0_eats_76 : decode cX0_eats 76 = .ok (.iconst 1, 1) := by decide +kernel
theorem dX0_eats_77 : decode cX0_eats 77 = .ok (.isub, 1) := by decide +kernel
theorem dX0_eats_78 : decode cX0_eats 78 = .ok (.ireturn, 1) := by decide +kernel
theorem dX0_eats_79 : decode cX0_eats 79 = .ok (.iload_n 3, 1) := by decide +kernel
theorem dX0_eats_80 : decode cX0_eats 80 = .ok (.ireturn, 1) := by decide +kernel
theorem dX0_needs_0 : decode cX0_needs 0 = .ok (.iconst 3, 1) := by decide +kernel
theorem dX0_needs_1 : decode cX0_needs 1 = .ok (.istore_n 2, 1) := by decide +kernel
theorem dX0_needs_2 : decode cX0_needs 2 = .ok (.iload_n 1, 1) := by decide +kernel
theorem dX0_needs_3 : decode cX0_needs 3 = .ok (.bipush 20, 2) := by decide +kernel
theorem dX0_needs_5 : decode cX0_needs 5 = .ok (.if_icmp .ge 7, 3) := by decide +kernel
theorem dX0_needs_8 : decode cX0_needs 8 = .ok (.iconst 1, 1) := by decide +kernel
theorem dX0_needs_9 : decode cX0_needs 9 = .ok (.goto 4, 3) := by decide +kernel
theorem dX0_needs_12 : decode cX0_needs 12 = .ok (.iload_n 2, 1) := by decide +kernel
theorem dX0_needs_13 : decode cX0_needs 13 = .ok (.istore_n 3, 1) := by decide +kernel
theorem dX0_needs_14 : decode cX0_needs 14 = .ok (.iconst 2, 1) := by decide +kernel
theorem dX0_needs_15 : decode cX0_needs 15 = .ok (.iload_n 2, 1) := by decide +kernel
theorem dX0_needs_16 : decode cX0_needs 16 = .ok (.imul, 1) := by decide +kernel
theorem dX0_needs_17 : decode cX0_needs 17 = .ok (.istore 4, 2) := by decide +kernel
theorem dX0_needs_19 : decode cX0_needs 19 = .ok (.iload_n 0, 1) := by decide +kernel
theorem dX0_needs_20 : decode cX0_needs 20 = .ok (.tableswitch 54 1 5 #[36, 38, 41, 45, 49], 36) := by decide +kernel
theorem dX0_needs_56 : decode cX0_needs 56 = .ok (.iload_n 3, 1) := by decide +kernel
theorem dX0_needs_57 : decode cX0_needs 57 = .ok (.ireturn, 1) := by decide +kernel
theorem dX0_needs_58 : decode cX0_needs 58 = .ok (.iload 4, 2) := by decide +kernel
theorem dX0_needs_60 : decode cX0_needs 60 = .ok (.ireturn, 1) := by decide +kernel
theorem dX0_needs_61 : decode cX0_needs 61 = .ok (.iload_n 2, 1) := by decide +kernel
theorem dX0_needs_62 : decode cX0_needs 62 = .ok (.iconst 1, 1) := by decide +kernel
theorem dX0_needs_63 : decode cX0_needs 63 = .ok (.iadd, 1) := by decide +kernel
theorem dX0_needs_64 : decode cX0_needs 64 = .ok (.ireturn, 1) := by decide +kernel
theorem dX0_needs_65 : decode cX0_needs 65 = .ok (.iload_n 3, 1) := by decide +kernel
theorem dX0_needs_66 : decode cX0_needs 66 = .ok (.iconst 1, 1) := by decide +kernel
theorem dX0_needs_67 : decode cX0_needs 67 = .ok (.isub, 1) := by decide +kernel
theorem dX0_needs_68 : decode cX0_needs 68 = .ok (.ireturn, 1) := by decide +kernel
theorem dX0_needs_69 : decode cX0_needs 69 = .ok (.iload 4, 2) := by decide +kernel
theorem dX0_needs_71 : decode cX0_needs 71 = .ok (.iconst 1, 1) := by decide +kernel
theorem dX0_needs_72 : decode cX0_needs 72 = .ok (.iadd, 1) := by decide +kernel
theorem dX0_needs_73 : decode cX0_needs 73 = .ok (.ireturn, 1) := by decide +kernel
theorem dX0_needs_74 : decode cX0_needs 74 = .ok (.iload_n 2, 1) := by decide +kernel
theorem dX0_needs_75 : decode cX0_needs 75 = .ok (.ireturn, 1) := by decide +kernel
theorem dX0_grows_0 : decode cX0_grows 0 = .ok (.iconst 1, 1) := by decide +kernel
theorem dX0_grows_1 : decode cX0_grows 1 = .ok (.istore_n 3, 1) := by decide +kernel
theorem dX0_grows_2 : decode cX0_grows 2 = .ok (.iload_n 0, 1) := by decide +kernel
theorem dX0_grows_3 : decode cX0_grows 3 = .ok (.tableswitch 54 1 5 #[33, 40, 42, 33, 40], 33) := by decide +kernel
theorem dX0_grows_36 : decode cX0_grows 36 = .ok (.iload_n 1, 1) := by decide +kernel
theorem dX0_grows_37 : decode cX0_grows 37 = .ok (.bipush 10, 2) := by decide +kernel
theorem dX0_grows_39 : decode cX0_grows 39 = .ok (.idiv, 1) := by decide +kernel
theorem dX0_grows_40 : decode cX0_grows 40 = .ok (.iload_n 3, 1) := by decide +kernel
theorem dX0_grows_41 : decode cX0_grows 41 = .ok (.iadd, 1) := by decide +kernel
theorem dX0_grows_42 : decode cX0_grows 42 = .ok (.ireturn, 1) := by decide +kernel
theorem dX0_grows_43 : decode cX0_grows 43 = .ok (.iconst 0, 1) := by decide +kernel
theorem dX0_grows_44 : decode cX0_grows 44 = .ok (.ireturn, 1) := by decide +kernel
theorem dX0_grows_45 : decode cX0_grows 45 = .ok (.iload_n 2, 1) := by decide +kernel
theorem dX0_grows_46 : decode cX0_grows 46 = .ok (.iconst 2, 1) := by decide +kernel
theorem dX0_grows_47 : decode cX0_grows 47 = .ok (.irem, 1) := by decide +kernel
theorem dX0_grows_48 : decode cX0_grows 48 = .ok (.ifCond .ne 7, 3) := by decide +kernel
theorem dX0_grows_51 : decode cX0_grows 51 = .ok (.iload_n 3, 1) := by decide +kernel
theorem dX0_grows_52 : decode cX0_grows 52 = .ok (.goto 4, 3) := by decide +kernel
theorem dX0_grows_55 : decode cX0_grows 55 = .ok (.iconst 0, 1) := by decide +kernel
theorem dX0_grows_56 : decode cX0_grows 56 = .ok (.ireturn, 1) := by decide +kernel
theorem dX0_grows_57 : decode cX0_grows 57 = .ok (.iload_n 3, 1) := by decide +kernel
theorem dX0_grows_58 : decode cX0_grows 58 = .ok (.ireturn, 1) := by decide +kernel
theorem dX0_nameOf_0 : decode cX0_nameOf 0 = .ok (.iload_n 0, 1) := by decide +kernel
theorem dX0_nameOf_1 : decode cX0_nameOf 1 = .ok (.tableswitch 50 1 5 #[35, 38, 41, 44, 47], 35) := by decide +kernel
theorem dX0_nameOf_36 : decode cX0_nameOf 36 = .ok (.ldc 19, 2) := by decide +kernel
theorem dX0_nameOf_38 : decode cX0_nameOf 38 = .ok (.areturn, 1) := by decide +kernel
theorem dX0_nameOf_39 : decode cX0_nameOf 39 = .ok (.ldc 21, 2) := by decide +kernel
theorem dX0_nameOf_41 : decode cX0_nameOf 41 = .ok (.areturn, 1) := by decide +kernel
theorem dX0_nameOf_42 : decode cX0_nameOf 42 = .ok (.ldc 23, 2) := by decide +kernel
theorem dX0_nameOf_44 : decode cX0_nameOf 44 = .ok (.areturn, 1) := by decide +kernel
theorem dX0_nameOf_45 : decode cX0_nameOf 45 = .ok (.ldc 25, 2) := by decide +kernel
theorem dX0_nameOf_47 : decode cX0_nameOf 47 = .ok (.areturn, 1) := by decide +kernel
theorem dX0_nameOf_48 : decode cX0_nameOf 48 = .ok (.ldc 27, 2) := by decide +kernel
theorem dX0_nameOf_50 : decode cX0_nameOf 50 = .ok (.areturn, 1) := by decide +kernel
theorem dX0_nameOf_51 : decode cX0_nameOf 51 = .ok (.ldc 29, 2) := by decide +kernel
theorem dX0_nameOf_53 : decode cX0_nameOf 53 = .ok (.areturn, 1) := by decide +kernel
theorem dX1_init_0 : decode cX1_init 0 = .ok (.aload_n 0, 1) := by decide +kernel
theorem dX1_init_1 : decode cX1_init 1 = .ok (.invokespecial 1, 3) := by decide +kernel
theorem dX1_init_4 : decode cX1_init 4 = .ok (.aload_n 0, 1) := by decide +kernel
theorem dX1_init_5 : decode cX1_init 5 = .ok (.iconst 0, 1) := by decide +kernel
theorem dX1_init_6 : decode cX1_init 6 = .ok (.putfield 7, 3) := by decide +kernel
theorem dX1_init_9 : decode cX1_init 9 = .ok (.aload_n 0, 1) := by decide +kernel
theorem dX1_init_10 : decode cX1_init 10 = .ok (.iconst 0, 1) := by decide +kernel
theorem dX1_init_11 : decode cX1_init 11 = .ok (.putfield 13, 3) := by decide +kernel
theorem dX1_init_14 : decode cX1_init 14 = .ok (.aload_n 0, 1) := by decide +kernel
theorem dX1_init_15 : decode cX1_init 15 = .ok (.bipush 40, 2) := by decide +kernel
theorem dX1_init_17 : decode cX1_init 17 = .ok (.newarray .long, 2) := by decide +kernel
theorem dX1_init_19 : decode cX1_init 19 = .ok (.putfield 16, 3) := by decide +kernel
theorem dX1_init_22 : decode cX1_init 22 = .ok (.return_, 1) := by decide +kernel
theorem dX1_isMissing_0 : decode cX1_isMissing 0 = .ok (.aload_n 0, 1) := by decide +kernel
theorem dX1_isMissing_1 : decode cX1_isMissing 1 = .ok (.getfield 7, 3) := by decide +kernel
theorem dX1_isMissing_4 : decode cX1_isMissing 4 = .ok (.ifCond .ne 7, 3) := by decide +kernel
theorem dX1_isMissing_7 : decode cX1_isMissing 7 = .ok (.iconst 1, 1) := by decide +kernel
theorem dX1_isMissing_8 : decode cX1_isMissing 8 = .ok (.goto 4, 3) := by decide +kernel
theorem dX1_isMissing_11 : decode cX1_isMissing 11 = .ok (.iconst 0, 1) := by decide +kernel
theorem dX1_isMissing_12 : decode cX1_isMissing 12 = .ok (.ireturn, 1) := by decide +kernel
theorem dX1_begin_0 : decode cX1_begin 0 = .ok (.aload_n 0, 1) := by decide +kernel
theorem dX1_begin_1 : decode cX1_begin 1 = .ok (.iload_n 1, 1) := by decide +kernel
theorem dX1_begin_2 : decode cX1_begin 2 = .ok (.putfield 7, 3) := by decide +kernel
theorem dX1_begin_5 : decode cX1_begin 5 = .ok (.aload_n 0, 1) := by decide +kernel
theorem dX1_begin_6 : decode cX1_begin 6 = .ok (.iload_n 1, 1) := by decide +kernel
theorem dX1_begin_7 : decode cX1_begin 7 = .ok (.ifCond .ne 7, 3) := by decide +kernel
theorem dX1_begin_10 : decode cX1_begin 10 = .ok (.iconst 0, 1) := by decide +kernel
theorem dX1_begin_11 : decode cX1_begin 11 = .ok (.goto 4, 3) := by decide +kernel
theorem dX1_begin_14 : decode cX1_begin 14 = .ok (.iload_n 2, 1) := by decide +kernel
theorem dX1_begin_15 : decode cX1_begin 15 = .ok (.putfield 13, 3) := by decide +kernel
theorem dX1_begin_18 : decode cX1_begin 18 = .ok (.iconst 0, 1) := by decide +kernel
theorem dX1_begin_19 : decode cX1_begin 19 = .ok (.istore_n 3, 1) := by decide +kernel
theorem dX1_begin_20 : decode cX1_begin 20 = .ok (.iload_n 3, 1) := by decide +kernel
theorem dX1_begin_21 : decode cX1_begin 21 = .ok (.bipush 40, 2) := by decide +kernel
theorem dX1_begin_23 : decode cX1_begin 23 = .ok (.if_icmp .ge 16, 3) := by decide +kernel
theorem dX1_begin_26 : decode cX1_begin 26 = .ok (.aload_n 0, 1) := by decide +kernel
theorem dX1_begin_27 : decode cX1_begin 27 = .ok (.getfield 16, 3) := by decide +kernel
theorem dX1_begin_30 : decode cX1_begin 30 = .ok (.iload_n 3, 1) := by decide +kernel
theorem dX1_begin_31 : decode cX1_begin 31 = .ok (.lconst 0, 1) := by decide +kernel
theorem dX1_begin_32 : decode cX1_begin 32 = .ok (.lastore, 1) := by decide +kernel
theorem dX1_begin_33 : decode cX1_begin 33 = .ok (.iinc 3 1, 3) := by decide +kernel
theorem dX1_begin_36 : decode cX1_begin 36 = .ok (.goto (-16), 3) := by decide +kernel
theorem dX1_begin_39 : decode cX1_begin 39 = .ok (.return_, 1) := by decide +kernel
theorem dX1_put_0 : decode cX1_put 0 = .ok (.aload_n 0, 1) := by decide +kernel
theorem dX1_put_1 : decode cX1_put 1 = .ok (.getfield 16, 3) := by decide +kernel
theorem dX1_put_4 : decode cX1_put 4 = .ok (.iload_n 1, 1) := by decide +kernel
theorem dX1_put_5 : decode cX1_put 5 = .ok (.aload_n 0, 1) := by decide +kernel
theorem dX1_put_6 : decode cX1_put 6 = .ok (.getfield 7, 3) := by decide +kernel
theorem dX1_put_9 : decode cX1_put 9 = .ok (.bipush 8, 2) := by decide +kernel
theorem dX1_put_11 : decode cX1_put 11 = .ok (.if_icmp .ne 10, 3) := by decide +kernel
theorem dX1_put_14 : decode cX1_put 14 = .ok (.lload_n 2, 1) := by decide +kernel
theorem dX1_put_15 : decode cX1_put 15 = .ok (.l2i, 1) := by decide +kernel
theorem dX1_put_16 : decode cX1_put 16 = .ok (.i2b, 1) := by decide +kernel
theorem dX1_put_17 : decode cX1_put 17 = .ok (.i2l, 1) := by decide +kernel
theorem dX1_put_18 : decode cX1_put 18 = .ok (.goto 20, 3) := by decide +kernel
theorem dX1_put_21 : decode cX1_put 21 = .ok (.aload_n 0, 1) := by decide +kernel
theorem dX1_put_22 : decode cX1_put 22 = .ok (.getfield 7, 3) := by decide +kernel
theorem dX1_put_25 : decode cX1_put 25 = .ok (.bipush 16, 2) := by decide +kernel
theorem dX1_put_27 : decode cX1_put 27 = .ok (.if_icmp .ne 10, 3) := by decide +kernel
theorem dX1_put_30 : decode cX1_put 30 = .ok (.lload_n 2, 1) := by decide +kernel
theorem dX1_put_31 : decode cX1_put 31 = .ok (.l2i, 1) := by decide +kernel
theorem dX1_put_32 : decode cX1_put 32 = .ok (.i2s, 1) := by decide +kernel
theorem dX1_put_33 : decode cX1_put 33 = .ok (.i2l, 1) := by decide +kernel
theorem dX1_put_34 : decode cX1_put 34 = .ok (.goto 4, 3) := by decide +kernel
theorem dX1_put_37 : decode cX1_put 37 = .ok (.lload_n 2, 1) := by decide +kernel
theorem dX1_put_38 : decode cX1_put 38 = .ok (.lastore, 1) := by decide +kernel
theorem dX1_put_39 : decode cX1_put 39 = .ok (.return_, 1) := by decide +kernel
theorem dX1_hasRange_0 : decode cX1_hasRange 0 = .ok (.iload_n 1, 1) := by decide +kernel
theorem dX1_hasRange_1 : decode cX1_hasRange 1 = .ok (.ifCond .lt 29, 3) := by decide +kernel
theorem dX1_hasRange_4 : decode cX1_hasRange 4 = .ok (.iload_n 2, 1) := by decide +kernel
theorem dX1_hasRange_5 : decode cX1_hasRange 5 = .ok (.ifCond .lt 25, 3) := by decide +kernel
theorem dX1_hasRange_8 : decode cX1_hasRange 8 = .ok (.iload_n 2, 1) := by decide +kernel
theorem dX1_hasRange_9 : decode cX1_hasRange 9 = .ok (.aload_n 0, 1) := by decide +kernel
theorem dX1_hasRange_10 : decode cX1_hasRange 10 = .ok (.getfield 13, 3) := by decide +kernel
theorem dX1_hasRange_13 : decode cX1_hasRange 13 = .ok (.if_icmp .gt 17, 3) := by decide +kernel
theorem dX1_hasRange_16 : decode cX1_hasRange 16 = .ok (.iload_n 1, 1) := by decide +kernel
theorem dX1_hasRange_17 : decode cX1_hasRange 17 = .ok (.aload_n 0, 1) := by decide +kernel
theorem dX1_hasRange_18 : decode cX1_hasRange 18 = .ok (.getfield 13, 3) := by decide +kernel
theorem dX1_hasRange_21 : decode cX1_hasRange 21 = .ok (.iload_n 2, 1) := by decide +kernel
theorem dX1_hasRange_22 : decode cX1_hasRange 22 = .ok (.isub, 1) := by decide +kernel
theorem dX1_hasRange_23 : decode cX1_hasRange 23 = .ok (.if_icmp .gt 7, 3) := by decide +kernel
theorem dX1_hasRange_26 : decode cX1_hasRange 26 = .ok (.iconst 1, 1) := by decide +kernel
theorem dX1_hasRange_27 : decode cX1_hasRange 27 = .ok (.goto 4, 3) := by decide +kernel
theorem dX1_hasRange_30 : decode cX1_hasRange 30 = .ok (.iconst 0, 1) := by decide +kernel
theorem dX1_hasRange_31 : decode cX1_hasRange 31 = .ok (.ireturn, 1) := by decide +kernel
theorem dX2_init_0 : decode cX2_init 0 = .ok (.aload_n 0, 1) := by decide +kernel
theorem dX2_init_1 : decode cX2_init 1 = .ok (.invokespecial 3, 3) := by decide +kernel
theorem dX2_init_4 : decode cX2_init 4 = .ok (.aload_n 0, 1) := by decide +kernel
theorem dX2_init_5 : decode cX2_init 5 = .ok (.bipush 120, 2) := by decide +kernel
theorem dX2_init_7 : decode cX2_init 7 = .ok (.newarray .int, 2) := by decide +kernel
theorem dX2_init_9 : decode cX2_init 9 = .ok (.putfield 11, 3) := by decide +kernel
theorem dX2_init_12 : decode cX2_init 12 = .ok (.aload_n 0, 1) := by decide +kernel
theorem dX2_init_13 : decode cX2_init 13 = .ok (.iconst 0, 1) := by decide +kernel
theorem dX2_init_14 : decode cX2_init 14 = .ok (.putfield 15, 3) := by decide +kernel
theorem dX2_init_17 : decode cX2_init 17 = .ok (.aload_n 0, 1) := by decide +kernel
theorem dX2_init_18 : decode cX2_init 18 = .ok (.iconst 0, 1) := by decide +kernel
theorem dX2_init_19 : decode cX2_init 19 = .ok (.putfield 19, 3) := by decide +kernel
theorem dX2_init_22 : decode cX2_init 22 = .ok (.aload_n 0, 1) := by decide +kernel
theorem dX2_init_23 : decode cX2_init 23 = .ok (.iconst 0, 1) := by decide +kernel
theorem dX2_init_24 : decode cX2_init 24 = .ok (.putfield 22, 3) := by decide +kernel
theorem dX2_init_27 : decode cX2_init 27 = .ok (.aload_n 0, 1) := by decide +kernel
theorem dX2_init_28 : decode cX2_init 28 = .ok (.iconst 0, 1) := by decide +kernel
theorem dX2_init_29 : decode cX2_init 29 = .ok (.putfield 25, 3) := by decide +kernel
theorem dX2_init_32 : decode cX2_init 32 = .ok (.aload_n 0, 1) := by decide +kernel
theorem dX2_init_33 : decode cX2_init 33 = .ok (.iconst 0, 1) := by decide +kernel
theorem dX2_init_34 : decode cX2_init 34 = .ok (.putfield 28, 3) := by decide +kernel
theorem dX2_init_37 : decode cX2_init 37 = .ok (.return_, 1) := by decide +kernel
theorem dX2_addByte_0 : decode cX2_addByte 0 = .ok (.aload_n 0, 1) := by decide +kernel
theorem dX2_addByte_1 : decode cX2_addByte 1 = .ok (.getfield 15, 3) := by decide +kernel
theorem dX2_addByte_4 : decode cX2_addByte 4 = .ok (.bipush 120, 2) := by decide +kernel
theorem dX2_addByte_6 : decode cX2_addByte 6 = .ok (.if_icmp .ge 23, 3) := by decide +kernel
theorem dX2_addByte_9 : decode cX2_addByte 9 = .ok (.aload_n 0, 1) := by decide +kernel
theorem dX2_addByte_10 : decode cX2_addByte 10 = .ok (.getfield 11, 3) := by decide +kernel
theorem dX2_addByte_13 : decode cX2_addByte 13 = .ok (.aload_n 0, 1) := by decide +kernel
theorem dX2_addByte_14 : decode cX2_addByte 14 = .ok (.getfield 15, 3) := by decide +kernel
theorem dX2_addByte_17 : decode cX2_addByte 17 = .ok (.iload_n 1, 1) := by decide +kernel
theorem dX2_addByte_18 : decode cX2_addByte 18 = .ok (.iastore, 1) := by decide +kernel
theorem dX2_addByte_19 : decode cX2_addByte 19 = .ok (.aload_n 0, 1) := by decide +kernel
theorem dX2_addByte_20 : decode cX2_addByte 20 = .ok (.dup, 1) := by decide +kernel
theorem dX2_addByte_21 : decode cX2_addByte 21 = .ok (.getfield 15, 3) := by decide +kernel
theorem dX2_addByte_24 : decode cX2_addByte 24 = .ok (.iconst 1, 1) := by decide +kernel
theorem dX2_addByte_25 : decode cX2_addByte 25 = .ok (.iadd, 1) := by decide +kernel
theorem dX2_addByte_26 : decode cX2_addByte 26 = .ok (.putfield 15, 3) := by decide +kernel
theorem dX2_addByte_29 : decode cX2_addByte 29 = .ok (.return_, 1) := by decide +kernel
theorem dX2_tellTo_0 : decode cX2_tellTo 0 = .ok (.aload_n 0, 1) := by decide +kernel
theorem dX2_tellTo_1 : decode cX2_tellTo 1 = .ok (.iconst 0, 1) := by decide +kernel
theorem dX2_tellTo_2 : decode cX2_tellTo 2 = .ok (.putfield 25, 3) := by decide +kernel
theorem dX2_tellTo_5 : decode cX2_tellTo 5 = .ok (.aload_n 0, 1) := by decide +kernel
theorem dX2_tellTo_6 : decode cX2_tellTo 6 = .ok (.invokevirtual 31, 3) := by decide +kernel
theorem dX2_tellTo_9 : decode cX2_tellTo 9 = .ok (.iconst 1, 1) := by decide +kernel
theorem dX2_tellTo_10 : decode cX2_tellTo 10 = .ok (.istore_n 2, 1) := by decide +kernel
theorem dX2_tellTo_11 : decode cX2_tellTo 11 = .ok (.iload_n 2, 1) := by decide +kernel
theorem dX2_tellTo_12 : decode cX2_tellTo 12 = .ok (.bipush 120, 2) := by decide +kernel
theorem dX2_tellTo_14 : decode cX2_tellTo 14 = .ok (.if_icmp .gt 52, 3) := by decide +kernel
theorem dX2_tellTo_17 : decode cX2_tellTo 17 = .ok (.aload_n 0, 1) := by decide +kernel
theorem dX2_tellTo_18 : decode cX2_tellTo 18 = .ok (.aload_n 1, 1) := by decide +kernel
theorem dX2_tellTo_19 : decode cX2_tellTo 19 = .ok (.invokevirtual 34, 3) := by decide +kernel
theorem dX2_tellTo_22 : decode cX2_tellTo 22 = .ok (.ifCond .ne 10, 3) := by decide +kernel
theorem dX2_tellTo_25 : decode cX2_tellTo 25 = .ok (.iconst (-1), 1) := by decide +kernel
theorem dX2_tellTo_26 : decode cX2_tellTo 26 = .ok (.aload_n 0, 1) := by decide +kernel
theorem dX2_tellTo_27 : decode cX2_tellTo 27 = .ok (.getfield 22, 3) := by decide +kernel
theorem dX2_tellTo_30 : decode cX2_tellTo 30 = .ok (.isub, 1) := by decide +kernel
theorem dX2_tellTo_31 : decode cX2_tellTo 31 = .ok (.ireturn, 1) := by decide +kernel
theorem dX2_tellTo_32 : decode cX2_tellTo 32 = .ok (.aload_n 0, 1) := by decide +kernel
theorem dX2_tellTo_33 : decode cX2_tellTo 33 = .ok (.getfield 19, 3) := by decide +kernel
theorem dX2_tellTo_36 : decode cX2_tellTo 36 = .ok (.ifCond .ne 5, 3) := by decide +kernel
theorem dX2_tellTo_39 : decode cX2_tellTo 39 = .ok (.iload_n 2, 1) := by decide +kernel
theorem dX2_tellTo_40 : decode cX2_tellTo 40 = .ok (.ireturn, 1) := by decide +kernel
theorem dX2_tellTo_41 : decode cX2_tellTo 41 = .ok (.aload_n 0, 1) := by decide +kernel
theorem dX2_tellTo_42 : decode cX2_tellTo 42 = .ok (.getfield 19, 3) := by decide +kernel
theorem dX2_tellTo_45 : decode cX2_tellTo 45 = .ok (.iconst 3, 1) := by decide +kernel
theorem dX2_tellTo_46 : decode cX2_tellTo 46 = .ok (.if_icmp .eq 10, 3) := by decide +kernel
theorem dX2_tellTo_49 : decode cX2_tellTo 49 = .ok (.iconst (-1), 1) := by decide +kernel
theorem dX2_tellTo_50 : decode cX2_tellTo 50 = .ok (.aload_n 0, 1) := by decide +kernel
theorem dX2_tellTo_51 : decode cX2_tellTo 51 = .ok (.getfield 22, 3) := by decide +kernel
theorem dX2_tellTo_54 : decode cX2_tellTo 54 = .ok (.isub, 1) := by decide +kernel
theorem dX2_tellTo_55 : decode cX2_tellTo 55 = .ok (.ireturn, 1) := by decide +kernel
theorem dX2_tellTo_56 : decode cX2_tellTo 56 = .ok (.aload_n 0, 1) := by decide +kernel
theorem dX2_tellTo_57 : decode cX2_tellTo 57 = .ok (.invokevirtual 31, 3) := by decide +kernel
theorem dX2_tellTo_60 : decode cX2_tellTo 60 = .ok (.iinc 2 1, 3) := by decide +kernel
theorem dX2_tellTo_63 : decode cX2_tellTo 63 = .ok (.goto (-52), 3) := by decide +kernel
theorem dX2_tellTo_66 : decode cX2_tellTo 66 = .ok (.iconst (-1), 1) := by decide +kernel
theorem dX2_tellTo_67 : decode cX2_tellTo 67 = .ok (.aload_n 0, 1) := by decide +kernel
theorem dX2_tellTo_68 : decode cX2_tellTo 68 = .ok (.getfield 22, 3) := by decide +kernel
theorem dX2_tellTo_71 : decode cX2_tellTo 71 = .ok (.isub, 1) := by decide +kernel
theorem dX2_tellTo_72 : decode cX2_tellTo 72 = .ok (.ireturn, 1) := by decide +kernel
theorem dX2_tellItem_0 : decode cX2_tellItem 0 = .ok (.aload_n 0, 1) := by decide +kernel
theorem dX2_tellItem_1 : decode cX2_tellItem 1 = .ok (.ldc 38, 2) := by decide +kernel
theorem dX2_tellItem_3 : decode cX2_tellItem 3 = .ok (.invokevirtual 40, 3) := by decide +kernel
theorem dX2_tellItem_6 : decode cX2_tellItem 6 = .ok (.ifCond .eq 9, 3) := by decide +kernel
theorem dX2_tellItem_9 : decode cX2_tellItem 9 = .ok (.aload_n 0, 1) := by decide +kernel
theorem dX2_tellItem_10 : decode cX2_tellItem 10 = .ok (.aload_n 1, 1) := by decide +kernel
theorem dX2_tellItem_11 : decode cX2_tellItem 11 = .ok (.invokevirtual 44, 3) := by decide +kernel
theorem dX2_tellItem_14 : decode cX2_tellItem 14 = .ok (.ireturn, 1) := by decide +kernel
theorem dX2_tellItem_15 : decode cX2_tellItem 15 = .ok (.aload_n 0, 1) := by decide +kernel
theorem dX2_tellItem_16 : decode cX2_tellItem 16 = .ok (.ldc 47, 2) := by decide +kernel
theorem dX2_tellItem_18 : decode cX2_tellItem 18 = .ok (.invokevirtual 40, 3) := by decide +kernel
theorem dX2_tellItem_21 : decode cX2_tellItem 21 = .ok (.ifCond .eq 9, 3) := by decide +kernel
theorem dX2_tellItem_24 : decode cX2_tellItem 24 = .ok (.aload_n 0, 1) := by decide +kernel
theorem dX2_tellItem_25 : decode cX2_tellItem 25 = .ok (.aload_n 1, 1) := by decide +kernel
theorem dX2_tellItem_26 : decode cX2_tellItem 26 = .ok (.invokevirtual 49, 3) := by decide +kernel
theorem dX2_tellItem_29 : decode cX2_tellItem 29 = .ok (.ireturn, 1) := by decide +kernel
theorem dX2_tellItem_30 : decode cX2_tellItem 30 = .ok (.iconst 0, 1) := by decide +kernel
theorem dX2_tellItem_31 : decode cX2_tellItem 31 = .ok (.istore_n 2, 1) := by decide +kernel
theorem dX2_tellItem_32 : decode cX2_tellItem 32 = .ok (.iload_n 2, 1) := by decide +kernel
theorem dX2_tellItem_33 : decode cX2_tellItem 33 = .ok (.bipush 6, 2) := by decide +kernel
theorem dX2_tellItem_35 : decode cX2_tellItem 35 = .ok (.if_icmp .ge 27, 3) := by decide +kernel
theorem dX2_tellItem_38 : decode cX2_tellItem 38 = .ok (.aload_n 0, 1) := by decide +kernel
theorem dX2_tellItem_39 : decode cX2_tellItem 39 = .ok (.iload_n 2, 1) := by decide +kernel
theorem dX2_tellItem_40 : decode cX2_tellItem 40 = .ok (.invokestatic 54, 3) := by decide +kernel
theorem dX2_tellItem_43 : decode cX2_tellItem 43 = .ok (.invokevirtual 40, 3) := by decide +kernel
theorem dX2_tellItem_46 : decode cX2_tellItem 46 = .ok (.ifCond .eq 10, 3) := by decide +kernel
theorem dX2_tellItem_49 : decode cX2_tellItem 49 = .ok (.aload_n 0, 1) := by decide +kernel
theorem dX2_tellItem_50 : decode cX2_tellItem 50 = .ok (.aload_n 1, 1) := by decide +kernel
theorem dX2_tellItem_51 : decode cX2_tellItem 51 = .ok (.iload_n 2, 1) := by decide +kernel
theorem dX2_tellItem_52 : decode cX2_tellItem 52 = .ok (.invokevirtual 58, 3) := by decide +kernel
theorem dX2_tellItem_55 : decode cX2_tellItem 55 = .ok (.ireturn, 1) := by decide +kernel
theorem dX2_tellItem_56 : decode cX2_tellItem 56 = .ok (.iinc 2 1, 3) := by decide +kernel
theorem dX2_tellItem_59 : decode cX2_tellItem 59 = .ok (.goto (-27), 3) := by decide +kernel
theorem dX2_tellItem_62 : decode cX2_tellItem 62 = .ok (.iconst 0, 1) := by decide +kernel
theorem dX2_tellItem_63 : decode cX2_tellItem 63 = .ok (.ireturn, 1) := by decide +kernel
theorem dX2_tellHouse_0 : decode cX2_tellHouse 0 = .ok (.aload_n 0, 1) := by decide +kernel
theorem dX2_tellHouse_1 : decode cX2_tellHouse 1 = .ok (.invokevirtual 31, 3) := by decide +kernel
theorem dX2_tellHouse_4 : decode cX2_tellHouse 4 = .ok (.aload_n 0, 1) := by decide +kernel
theorem dX2_tellHouse_5 : decode cX2_tellHouse 5 = .ok (.bipush 7, 2) := by decide +kernel
theorem dX2_tellHouse_7 : decode cX2_tellHouse 7 = .ok (.invokevirtual 62, 3) := by decide +kernel
theorem dX2_tellHouse_10 : decode cX2_tellHouse 10 = .ok (.istore_n 2, 1) := by decide +kernel
theorem dX2_tellHouse_11 : decode cX2_tellHouse 11 = .ok (.iload_n 2, 1) := by decide +kernel
theorem dX2_tellHouse_12 : decode cX2_tellHouse 12 = .ok (.ifCond .lt 55, 3) := by decide +kernel
theorem dX2_tellHouse_15 : decode cX2_tellHouse 15 = .ok (.aload_n 0, 1) := by decide +kernel
theorem dX2_tellHouse_16 : decode cX2_tellHouse 16 = .ok (.ldc 66, 2) := by decide +kernel
theorem dX2_tellHouse_18 : decode cX2_tellHouse 18 = .ok (.iconst 3, 1) := by decide +kernel
theorem dX2_tellHouse_19 : decode cX2_tellHouse 19 = .ok (.aload_n 1, 1) := by decide +kernel
theorem dX2_tellHouse_20 : decode cX2_tellHouse 20 = .ok (.getfield 68, 3) := by decide +kernel
theorem dX2_tellHouse_23 : decode cX2_tellHouse 23 = .ok (.iload_n 2, 1) := by decide +kernel
theorem dX2_tellHouse_24 : decode cX2_tellHouse 24 = .ok (.invokevirtual 72, 3) := by decide +kernel
theorem dX2_tellHouse_27 : decode cX2_tellHouse 27 = .ok (.ifCond .eq 40, 3) := by decide +kernel
theorem dX2_tellHouse_30 : decode cX2_tellHouse 30 = .ok (.aload_n 0, 1) := by decide +kernel
theorem dX2_tellHouse_31 : decode cX2_tellHouse 31 = .ok (.ldc 76, 2) := by decide +kernel
theorem dX2_tellHouse_33 : decode cX2_tellHouse 33 = .ok (.sipush 999, 3) := by decide +kernel
theorem dX2_tellHouse_36 : decode cX2_tellHouse 36 = .ok (.aload_n 1, 1) := by decide +kernel
theorem dX2_tellHouse_37 : decode cX2_tellHouse 37 = .ok (.getfield 78, 3) := by decide +kernel
theorem dX2_tellHouse_40 : decode cX2_tellHouse 40 = .ok (.iload_n 2, 1) := by decide +kernel
theorem dX2_tellHouse_41 : decode cX2_tellHouse 41 = .ok (.invokevirtual 72, 3) := by decide +kernel
theorem dX2_tellHouse_44 : decode cX2_tellHouse 44 = .ok (.ifCond .eq 23, 3) := by decide +kernel
theorem dX2_tellHouse_47 : decode cX2_tellHouse 47 = .ok (.aload_n 0, 1) := by decide +kernel
theorem dX2_tellHouse_48 : decode cX2_tellHouse 48 = .ok (.ldc 81, 2) := by decide +kernel
theorem dX2_tellHouse_50 : decode cX2_tellHouse 50 = .ok (.bipush 9, 2) := by decide +kernel
theorem dX2_tellHouse_52 : decode cX2_tellHouse 52 = .ok (.aload_n 1, 1) := by decide +kernel
theorem dX2_tellHouse_53 : decode cX2_tellHouse 53 = .ok (.getfield 83, 3) := by decide +kernel
theorem dX2_tellHouse_56 : decode cX2_tellHouse 56 = .ok (.iload_n 2, 1) := by decide +kernel
theorem dX2_tellHouse_57 : decode cX2_tellHouse 57 = .ok (.invokevirtual 72, 3) := by decide +kernel
theorem dX2_tellHouse_60 : decode cX2_tellHouse 60 = .ok (.ifCond .eq 7, 3) := by decide +kernel
theorem dX2_tellHouse_63 : decode cX2_tellHouse 63 = .ok (.iconst 1, 1) := by decide +kernel
theorem dX2_tellHouse_64 : decode cX2_tellHouse 64 = .ok (.goto 4, 3) := by decide +kernel
theorem dX2_tellHouse_67 : decode cX2_tellHouse 67 = .ok (.iconst 0, 1) := by decide +kernel
theorem dX2_tellHouse_68 : decode cX2_tellHouse 68 = .ok (.ireturn, 1) := by decide +kernel
theorem dX2_tellTrue_0 : decode cX2_tellTrue 0 = .ok (.aload_n 0, 1) := by decide +kernel
theorem dX2_tellTrue_1 : decode cX2_tellTrue 1 = .ok (.invokevirtual 31, 3) := by decide +kernel
theorem dX2_tellTrue_4 : decode cX2_tellTrue 4 = .ok (.aload_n 0, 1) := by decide +kernel
theorem dX2_tellTrue_5 : decode cX2_tellTrue 5 = .ok (.bipush 15, 2) := by decide +kernel
theorem dX2_tellTrue_7 : decode cX2_tellTrue 7 = .ok (.invokevirtual 62, 3) := by decide +kernel
theorem dX2_tellTrue_10 : decode cX2_tellTrue 10 = .ok (.istore_n 2, 1) := by decide +kernel
theorem dX2_tellTrue_11 : decode cX2_tellTrue 11 = .ok (.iload_n 2, 1) := by decide +kernel
theorem dX2_tellTrue_12 : decode cX2_tellTrue 12 = .ok (.ifCond .ge 5, 3) := by decide +kernel
theorem dX2_tellTrue_15 : decode cX2_tellTrue 15 = .ok (.iconst 0, 1) := by decide +kernel
theorem dX2_tellTrue_16 : decode cX2_tellTrue 16 = .ok (.ireturn, 1) := by decide +kernel
theorem dX2_tellTrue_17 : decode cX2_tellTrue 17 = .ok (.aload_n 1, 1) := by decide +kernel
theorem dX2_tellTrue_18 : decode cX2_tellTrue 18 = .ok (.iload_n 2, 1) := by decide +kernel
theorem dX2_tellTrue_19 : decode cX2_tellTrue 19 = .ok (.invokevirtual 85, 3) := by decide +kernel
theorem dX2_tellTrue_22 : decode cX2_tellTrue 22 = .ok (.pop, 1) := by decide +kernel
theorem dX2_tellTrue_23 : decode cX2_tellTrue 23 = .ok (.iconst 1, 1) := by decide +kernel
theorem dX2_tellTrue_24 : decode cX2_tellTrue 24 = .ok (.ireturn, 1) := by decide +kernel
theorem dX2_tellRumour_0 : decode cX2_tellRumour 0 = .ok (.aload_n 1, 1) := by decide +kernel
theorem dX2_tellRumour_1 : decode cX2_tellRumour 1 = .ok (.invokevirtual 88, 3) := by decide +kernel
theorem dX2_tellRumour_4 : decode cX2_tellRumour 4 = .ok (.ifCond .eq 5, 3) := by decide +kernel
theorem dX2_tellRumour_7 : decode cX2_tellRumour 7 = .ok (.iconst 0, 1) := by decide +kernel
theorem dX2_tellRumour_8 : decode cX2_tellRumour 8 = .ok (.ireturn, 1) := by decide +kernel
theorem dX2_tellRumour_9 : decode cX2_tellRumour 9 = .ok (.aload_n 0, 1) := by decide +kernel
theorem dX2_tellRumour_10 : decode cX2_tellRumour 10 = .ok (.invokevirtual 31, 3) := by decide +kernel
theorem dX2_tellRumour_13 : decode cX2_tellRumour 13 = .ok (.aload_n 0, 1) := by decide +kernel
theorem dX2_tellRumour_14 : decode cX2_tellRumour 14 = .ok (.ldc 92, 2) := by decide +kernel
theorem dX2_tellRumour_16 : decode cX2_tellRumour 16 = .ok (.invokevirtual 40, 3) := by decide +kernel
theorem dX2_tellRumour_19 : decode cX2_tellRumour 19 = .ok (.ifCond .ne 5, 3) := by decide +kernel
theorem dX2_tellRumour_22 : decode cX2_tellRumour 22 = .ok (.iconst 0, 1) := by decide +kernel
theorem dX2_tellRumour_23 : decode cX2_tellRumour 23 = .ok (.ireturn, 1) := by decide +kernel
theorem dX2_tellRumour_24 : decode cX2_tellRumour 24 = .ok (.aload_n 0, 1) := by decide +kernel
theorem dX2_tellRumour_25 : decode cX2_tellRumour 25 = .ok (.invokevirtual 31, 3) := by decide +kernel
theorem dX2_tellRumour_28 : decode cX2_tellRumour 28 = .ok (.aload_n 0, 1) := by decide +kernel
theorem dX2_tellRumour_29 : decode cX2_tellRumour 29 = .ok (.bipush 15, 2) := by decide +kernel
theorem dX2_tellRumour_31 : decode cX2_tellRumour 31 = .ok (.invokevirtual 62, 3) := by decide +kernel
theorem dX2_tellRumour_34 : decode cX2_tellRumour 34 = .ok (.istore_n 3, 1) := by decide +kernel
theorem dX2_tellRumour_35 : decode cX2_tellRumour 35 = .ok (.iload_n 3, 1) := by decide +kernel
theorem dX2_tellRumour_36 : decode cX2_tellRumour 36 = .ok (.ifCond .ge 5, 3) := by decide +kernel
theorem dX2_tellRumour_39 : decode cX2_tellRumour 39 = .ok (.iconst 0, 1) := by decide +kernel
theorem dX2_tellRumour_40 : decode cX2_tellRumour 40 = .ok (.ireturn, 1) := by decide +kernel
theorem dX2_tellRumour_41 : decode cX2_tellRumour 41 = .ok (.aload_n 1, 1) := by decide +kernel
theorem dX2_tellRumour_42 : decode cX2_tellRumour 42 = .ok (.iload_n 2, 1) := by decide +kernel
theorem dX2_tellRumour_43 : decode cX2_tellRumour 43 = .ok (.iload_n 3, 1) := by decide +kernel
theorem dX2_tellRumour_44 : decode cX2_tellRumour 44 = .ok (.bipush 10, 2) := by decide +kernel
theorem dX2_tellRumour_46 : decode cX2_tellRumour 46 = .ok (.invokevirtual 94, 3) := by decide +kernel
theorem dX2_tellRumour_49 : decode cX2_tellRumour 49 = .ok (.istore 4, 2) := by decide +kernel
theorem dX2_tellRumour_51 : decode cX2_tellRumour 51 = .ok (.iload 4, 2) := by decide +kernel
theorem dX2_tellRumour_53 : decode cX2_tellRumour 53 = .ok (.ifCond .lt 34, 3) := by decide +kernel
theorem dX2_tellRumour_56 : decode cX2_tellRumour 56 = .ok (.aload_n 0, 1) := by decide +kernel
theorem dX2_tellRumour_57 : decode cX2_tellRumour 57 = .ok (.ldc 98, 2) := by decide +kernel
theorem dX2_tellRumour_59 : decode cX2_tellRumour 59 = .ok (.bipush 99, 2) := by decide +kernel
theorem dX2_tellRumour_61 : decode cX2_tellRumour 61 = .ok (.aload_n 1, 1) := by decide +kernel
theorem dX2_tellRumour_62 : decode cX2_tellRumour 62 = .ok (.getfield 100, 3) := by decide +kernel
theorem dX2_tellRumour_65 : decode cX2_tellRumour 65 = .ok (.iload 4, 2) := by decide +kernel
theorem dX2_tellRumour_67 : decode cX2_tellRumour 67 = .ok (.invokevirtual 72, 3) := by decide +kernel
theorem dX2_tellRumour_70 : decode cX2_tellRumour 70 = .ok (.ifCond .eq 17, 3) := by decide +kernel
theorem dX2_tellRumour_73 : decode cX2_tellRumour 73 = .ok (.aload_n 0, 1) := by decide +kernel
theorem dX2_tellRumour_74 : decode cX2_tellRumour 74 = .ok (.aload_n 1, 1) := by decide +kernel
theorem dX2_tellRumour_75 : decode cX2_tellRumour 75 = .ok (.iload 4, 2) := by decide +kernel
theorem dX2_tellRumour_77 : decode cX2_tellRumour 77 = .ok (.invokevirtual 103, 3) := by decide +kernel
theorem dX2_tellRumour_80 : decode cX2_tellRumour 80 = .ok (.ifCond .eq 7, 3) := by decide +kernel
theorem dX2_tellRumour_83 : decode cX2_tellRumour 83 = .ok (.iconst 1, 1) := by decide +kernel
theorem dX2_tellRumour_84 : decode cX2_tellRumour 84 = .ok (.goto 4, 3) := by decide +kernel
theorem dX2_tellRumour_87 : decode cX2_tellRumour 87 = .ok (.iconst 0, 1) := by decide +kernel
theorem dX2_tellRumour_88 : decode cX2_tellRumour 88 = .ok (.ireturn, 1) := by decide +kernel
theorem dX2_tellPart_0 : decode cX2_tellPart 0 = .ok (.aload_n 0, 1) := by decide +kernel
theorem dX2_tellPart_1 : decode cX2_tellPart 1 = .ok (.aload_n 1, 1) := by decide +kernel
theorem dX2_tellPart_2 : decode cX2_tellPart 2 = .ok (.invokevirtual 40, 3) := by decide +kernel
theorem dX2_tellPart_5 : decode cX2_tellPart 5 = .ok (.ifCond .ne 5, 3) := by decide +kernel
theorem dX2_tellPart_8 : decode cX2_tellPart 8 = .ok (.iconst 1, 1) := by decide +kernel
theorem dX2_tellPart_9 : decode cX2_tellPart 9 = .ok (.ireturn, 1) := by decide +kernel
theorem dX2_tellPart_10 : decode cX2_tellPart 10 = .ok (.aload_n 0, 1) := by decide +kernel
theorem dX2_tellPart_11 : decode cX2_tellPart 11 = .ok (.invokevirtual 31, 3) := by decide +kernel
theorem dX2_tellPart_14 : decode cX2_tellPart 14 = .ok (.aload_n 0, 1) := by decide +kernel
theorem dX2_tellPart_15 : decode cX2_tellPart 15 = .ok (.iload_n 2, 1) := by decide +kernel
theorem dX2_tellPart_16 : decode cX2_tellPart 16 = .ok (.invokevirtual 106, 3) := by decide +kernel
theorem dX2_tellPart_19 : decode cX2_tellPart 19 = .ok (.ifCond .ne 5, 3) := by decide +kernel
theorem dX2_tellPart_22 : decode cX2_tellPart 22 = .ok (.iconst 0, 1) := by decide +kernel
theorem dX2_tellPart_23 : decode cX2_tellPart 23 = .ok (.ireturn, 1) := by decide +kernel
theorem dX2_tellPart_24 : decode cX2_tellPart 24 = .ok (.aload_n 3, 1) := by decide +kernel
theorem dX2_tellPart_25 : decode cX2_tellPart 25 = .ok (.iload 4, 2) := by decide +kernel
theorem dX2_tellPart_27 : decode cX2_tellPart 27 = .ok (.aload_n 0, 1) := by decide +kernel
theorem dX2_tellPart_28 : decode cX2_tellPart 28 = .ok (.getfield 28, 3) := by decide +kernel
theorem dX2_tellPart_31 : decode cX2_tellPart 31 = .ok (.iastore, 1) := by decide +kernel
theorem dX2_tellPart_32 : decode cX2_tellPart 32 = .ok (.aload_n 0, 1) := by decide +kernel
theorem dX2_tellPart_33 : decode cX2_tellPart 33 = .ok (.invokevirtual 31, 3) := by decide +kernel
theorem dX2_tellPart_36 : decode cX2_tellPart 36 = .ok (.iconst 1, 1) := by decide +kernel
theorem dX2_tellPart_37 : decode cX2_tellPart 37 = .ok (.ireturn, 1) := by decide +kernel
theorem dX2_tellLodging_0 : decode cX2_tellLodging 0 = .ok (.aload_n 0, 1) := by decide +kernel
theorem dX2_tellLodging_1 : decode cX2_tellLodging 1 = .ok (.ldc 110, 2) := by decide +kernel
theorem dX2_tellLodging_3 : decode cX2_tellLodging 3 = .ok (.invokevirtual 40, 3) := by decide +kernel
theorem dX2_tellLodging_6 : decode cX2_tellLodging 6 = .ok (.ifCond .ne 5, 3) := by decide +kernel
theorem dX2_tellLodging_9 : decode cX2_tellLodging 9 = .ok (.iconst 1, 1) := by decide +kernel
theorem dX2_tellLodging_10 : decode cX2_tellLodging 10 = .ok (.ireturn, 1) := by decide +kernel
theorem dX2_tellLodging_11 : decode cX2_tellLodging 11 = .ok (.aload_n 0, 1) := by decide +kernel
theorem dX2_tellLodging_12 : decode cX2_tellLodging 12 = .ok (.invokevirtual 31, 3) := by decide +kernel
theorem dX2_tellLodging_15 : decode cX2_tellLodging 15 = .ok (.aload_n 0, 1) := by decide +kernel
theorem dX2_tellLodging_16 : decode cX2_tellLodging 16 = .ok (.bipush 7, 2) := by decide +kernel
theorem dX2_tellLodging_18 : decode cX2_tellLodging 18 = .ok (.invokevirtual 106, 3) := by decide +kernel
theorem dX2_tellLodging_21 : decode cX2_tellLodging 21 = .ok (.ifCond .eq 14, 3) := by decide +kernel
theorem dX2_tellLodging_24 : decode cX2_tellLodging 24 = .ok (.aload_n 1, 1) := by decide +kernel
theorem dX2_tellLodging_25 : decode cX2_tellLodging 25 = .ok (.aload_n 0, 1) := by decide +kernel
theorem dX2_tellLodging_26 : decode cX2_tellLodging 26 = .ok (.getfield 28, 3) := by decide +kernel
theorem dX2_tellLodging_29 : decode cX2_tellLodging 29 = .ok (.invokevirtual 112, 3) := by decide +kernel
theorem dX2_tellLodging_32 : decode cX2_tellLodging 32 = .ok (.ifCond .ne 5, 3) := by decide +kernel
theorem dX2_tellLodging_35 : decode cX2_tellLodging 35 = .ok (.iconst 0, 1) := by decide +kernel
theorem dX2_tellLodging_36 : decode cX2_tellLodging 36 = .ok (.ireturn, 1) := by decide +kernel
theorem dX2_tellLodging_37 : decode cX2_tellLodging 37 = .ok (.aload_n 1, 1) := by decide +kernel
theorem dX2_tellLodging_38 : decode cX2_tellLodging 38 = .ok (.iload_n 2, 1) := by decide +kernel
theorem dX2_tellLodging_39 : decode cX2_tellLodging 39 = .ok (.aload_n 0, 1) := by decide +kernel
theorem dX2_tellLodging_40 : decode cX2_tellLodging 40 = .ok (.getfield 28, 3) := by decide +kernel
theorem dX2_tellLodging_43 : decode cX2_tellLodging 43 = .ok (.invokevirtual 115, 3) := by decide +kernel
theorem dX2_tellLodging_46 : decode cX2_tellLodging 46 = .ok (.aload_n 0, 1) := by decide +kernel
theorem dX2_tellLodging_47 : decode cX2_tellLodging 47 = .ok (.invokevirtual 31, 3) := by decide +kernel
theorem dX2_tellLodging_50 : decode cX2_tellLodging 50 = .ok (.iconst 1, 1) := by decide +kernel
theorem dX2_tellLodging_51 : decode cX2_tellLodging 51 = .ok (.ireturn, 1) := by decide +kernel
theorem dX2_passNumber_0 : decode cX2_passNumber 0 = .ok (.aload_n 0, 1) := by decide +kernel
theorem dX2_passNumber_1 : decode cX2_passNumber 1 = .ok (.iload_n 1, 1) := by decide +kernel
theorem dX2_passNumber_2 : decode cX2_passNumber 2 = .ok (.invokevirtual 106, 3) := by decide +kernel
theorem dX2_passNumber_5 : decode cX2_passNumber 5 = .ok (.ifCond .ne 5, 3) := by decide +kernel
theorem dX2_passNumber_8 : decode cX2_passNumber 8 = .ok (.iconst (-1), 1) := by decide +kernel
theorem dX2_passNumber_9 : decode cX2_passNumber 9 = .ok (.ireturn, 1) := by decide +kernel
theorem dX2_passNumber_10 : decode cX2_passNumber 10 = .ok (.aload_n 0, 1) := by decide +kernel
theorem dX2_passNumber_11 : decode cX2_passNumber 11 = .ok (.getfield 28, 3) := by decide +kernel
theorem dX2_passNumber_14 : decode cX2_passNumber 14 = .ok (.istore_n 2, 1) := by decide +kernel
theorem dX2_passNumber_15 : decode cX2_passNumber 15 = .ok (.aload_n 0, 1) := by decide +kernel
theorem dX2_passNumber_16 : decode cX2_passNumber 16 = .ok (.invokevirtual 31, 3) := by decide +kernel
theorem dX2_passNumber_19 : decode cX2_passNumber 19 = .ok (.iload_n 2, 1) := by decide +kernel
theorem dX2_passNumber_20 : decode cX2_passNumber 20 = .ok (.ireturn, 1) := by decide +kernel
theorem dX2_isNumber_0 : decode cX2_isNumber 0 = .ok (.aload_n 0, 1) := by decide +kernel
theorem dX2_isNumber_1 : decode cX2_isNumber 1 = .ok (.getfield 19, 3) := by decide +kernel
theorem dX2_isNumber_4 : decode cX2_isNumber 4 = .ok (.iconst 2, 1) := by decide +kernel
theorem dX2_isNumber_5 : decode cX2_isNumber 5 = .ok (.if_icmp .ne 15, 3) := by decide +kernel
theorem dX2_isNumber_8 : decode cX2_isNumber 8 = .ok (.aload_n 0, 1) := by decide +kernel
theorem dX2_isNumber_9 : decode cX2_isNumber 9 = .ok (.getfield 28, 3) := by decide +kernel
theorem dX2_isNumber_12 : decode cX2_isNumber 12 = .ok (.iload_n 1, 1) := by decide +kernel
theorem dX2_isNumber_13 : decode cX2_isNumber 13 = .ok (.if_icmp .gt 7, 3) := by decide +kernel
theorem dX2_isNumber_16 : decode cX2_isNumber 16 = .ok (.iconst 1, 1) := by decide +kernel
theorem dX2_isNumber_17 : decode cX2_isNumber 17 = .ok (.goto 4, 3) := by decide +kernel
theorem dX2_isNumber_20 : decode cX2_isNumber 20 = .ok (.iconst 0, 1) := by decide +kernel
theorem dX2_isNumber_21 : decode cX2_isNumber 21 = .ok (.ireturn, 1) := by decide +kernel
theorem dX2_isWord_0 : decode cX2_isWord 0 = .ok (.aload_n 0, 1) := by decide +kernel
theorem dX2_isWord_1 : decode cX2_isWord 1 = .ok (.getfield 19, 3) := by decide +kernel
theorem dX2_isWord_4 : decode cX2_isWord 4 = .ok (.iconst 1, 1) := by decide +kernel
theorem dX2_isWord_5 : decode cX2_isWord 5 = .ok (.if_icmp .ne 19, 3) := by decide +kernel
theorem dX2_isWord_8 : decode cX2_isWord 8 = .ok (.aload_n 0, 1) := by decide +kernel
theorem dX2_isWord_9 : decode cX2_isWord 9 = .ok (.getfield 25, 3) := by decide +kernel
theorem dX2_isWord_12 : decode cX2_isWord 12 = .ok (.aload_n 0, 1) := by decide +kernel
theorem dX2_isWord_13 : decode cX2_isWord 13 = .ok (.getfield 22, 3) := by decide +kernel
theorem dX2_isWord_16 : decode cX2_isWord 16 = .ok (.isub, 1) := by decide +kernel
theorem dX2_isWord_17 : decode cX2_isWord 17 = .ok (.aload_n 1, 1) := by decide +kernel
theorem dX2_isWord_18 : decode cX2_isWord 18 = .ok (.invokevirtual 119, 3) := by decide +kernel
theorem dX2_isWord_21 : decode cX2_isWord 21 = .ok (.if_icmp .eq 5, 3) := by decide +kernel
theorem dX2_isWord_24 : decode cX2_isWord 24 = .ok (.iconst 0, 1) := by decide +kernel
theorem dX2_isWord_25 : decode cX2_isWord 25 = .ok (.ireturn, 1) := by decide +kernel
theorem dX2_isWord_26 : decode cX2_isWord 26 = .ok (.iconst 0, 1) := by decide +kernel
theorem dX2_isWord_27 : decode cX2_isWord 27 = .ok (.istore_n 2, 1) := by decide +kernel
theorem dX2_isWord_28 : decode cX2_isWord 28 = .ok (.iload_n 2, 1) := by decide +kernel
theorem dX2_isWord_29 : decode cX2_isWord 29 = .ok (.aload_n 1, 1) := by decide +kernel
theorem dX2_isWord_30 : decode cX2_isWord 30 = .ok (.invokevirtual 119, 3) := by decide +kernel
theorem dX2_isWord_33 : decode cX2_isWord 33 = .ok (.if_icmp .ge 30, 3) := by decide +kernel
theorem dX2_isWord_36 : decode cX2_isWord 36 = .ok (.aload_n 0, 1) := by decide +kernel
theorem dX2_isWord_37 : decode cX2_isWord 37 = .ok (.getfield 11, 3) := by decide +kernel
theorem dX2_isWord_40 : decode cX2_isWord 40 = .ok (.aload_n 0, 1) := by decide +kernel
theorem dX2_isWord_41 : decode cX2_isWord 41 = .ok (.getfield 22, 3) := by decide +kernel
theorem dX2_isWord_44 : decode cX2_isWord 44 = .ok (.iload_n 2, 1) := by decide +kernel
theorem dX2_isWord_45 : decode cX2_isWord 45 = .ok (.iadd, 1) := by decide +kernel
theorem dX2_isWord_46 : decode cX2_isWord 46 = .ok (.iaload, 1) := by decide +kernel
theorem dX2_isWord_47 : decode cX2_isWord 47 = .ok (.aload_n 1, 1) := by decide +kernel
theorem dX2_isWord_48 : decode cX2_isWord 48 = .ok (.iload_n 2, 1) := by decide +kernel
theorem dX2_isWord_49 : decode cX2_isWord 49 = .ok (.invokevirtual 124, 3) := by decide +kernel
theorem dX2_isWord_52 : decode cX2_isWord 52 = .ok (.if_icmp .eq 5, 3) := by decide +kernel
theorem dX2_isWord_55 : decode cX2_isWord 55 = .ok (.iconst 0, 1) := by decide +kernel
theorem dX2_isWord_56 : decode cX2_isWord 56 = .ok (.ireturn, 1) := by decide +kernel
theorem dX2_isWord_57 : decode cX2_isWord 57 = .ok (.iinc 2 1, 3) := by decide +kernel
theorem dX2_isWord_60 : decode cX2_isWord 60 = .ok (.goto (-32), 3) := by decide +kernel
theorem dX2_isWord_63 : decode cX2_isWord 63 = .ok (.iconst 1, 1) := by decide +kernel
theorem dX2_isWord_64 : decode cX2_isWord 64 = .ok (.ireturn, 1) := by decide +kernel
theorem dX2_nextToken_0 : decode cX2_nextToken 0 = .ok (.aload_n 0, 1) := by decide +kernel
theorem dX2_nextToken_1 : decode cX2_nextToken 1 = .ok (.getfield 25, 3) := by decide +kernel
theorem dX2_nextToken_4 : decode cX2_nextToken 4 = .ok (.aload_n 0, 1) := by decide +kernel
theorem dX2_nextToken_5 : decode cX2_nextToken 5 = .ok (.getfield 15, 3) := by decide +kernel
theorem dX2_nextToken_8 : decode cX2_nextToken 8 = .ok (.if_icmp .ge 32, 3) := by decide +kernel
theorem dX2_nextToken_11 : decode cX2_nextToken 11 = .ok (.aload_n 0, 1) := by decide +kernel
theorem dX2_nextToken_12 : decode cX2_nextToken 12 = .ok (.getfield 11, 3) := by decide +kernel
theorem dX2_nextToken_15 : decode cX2_nextToken 15 = .ok (.aload_n 0, 1) := by decide +kernel
theorem dX2_nextToken_16 : decode cX2_nextToken 16 = .ok (.getfield 25, 3) := by decide +kernel
theorem dX2_nextToken_19 : decode cX2_nextToken 19 = .ok (.iaload, 1) := by decide +kernel
theorem dX2_nextToken_20 : decode cX2_nextToken 20 = .ok (.invokestatic 128, 3) := by decide +kernel
theorem dX2_nextToken_23 : decode cX2_nextToken 23 = .ok (.iconst 4, 1) := by decide +kernel
theorem dX2_nextToken_24 : decode cX2_nextToken 24 = .ok (.if_icmp .ne 16, 3) := by decide +kernel
theorem dX2_nextToken_27 : decode cX2_nextToken 27 = .ok (.aload_n 0, 1) := by decide +kernel
theorem dX2_nextToken_28 : decode cX2_nextToken 28 = .ok (.dup, 1) := by decide +kernel
theorem dX2_nextToken_29 : decode cX2_nextToken 29 = .ok (.getfield 25, 3) := by decide +kernel
theorem dX2_nextToken_32 : decode cX2_nextToken 32 = .ok (.iconst 1, 1) := by decide +kernel
theorem dX2_nextToken_33 : decode cX2_nextToken 33 = .ok (.iadd, 1) := by decide +kernel
theorem dX2_nextToken_34 : decode cX2_nextToken 34 = .ok (.putfield 25, 3) := by decide +kernel
theorem dX2_nextToken_37 : decode cX2_nextToken 37 = .ok (.goto (-37), 3) := by decide +kernel
theorem dX2_nextToken_40 : decode cX2_nextToken 40 = .ok (.aload_n 0, 1) := by decide +kernel
theorem dX2_nextToken_41 : decode cX2_nextToken 41 = .ok (.aload_n 0, 1) := by decide +kernel
theorem dX2_nextToken_42 : decode cX2_nextToken 42 = .ok (.getfield 25, 3) := by decide +kernel
theorem dX2_nextToken_45 : decode cX2_nextToken 45 = .ok (.putfield 22, 3) := by decide +kernel
theorem dX2_nextToken_48 : decode cX2_nextToken 48 = .ok (.aload_n 0, 1) := by decide +kernel
theorem dX2_nextToken_49 : decode cX2_nextToken 49 = .ok (.iconst 0, 1) := by decide +kernel
theorem dX2_nextToken_50 : decode cX2_nextToken 50 = .ok (.putfield 28, 3) := by decide +kernel
theorem dX2_nextToken_53 : decode cX2_nextToken 53 = .ok (.aload_n 0, 1) := by decide +kernel
theorem dX2_nextToken_54 : decode cX2_nextToken 54 = .ok (.getfield 25, 3) := by decide +kernel
theorem dX2_nextToken_57 : decode cX2_nextToken 57 = .ok (.aload_n 0, 1) := by decide +kernel
theorem dX2_nextToken_58 : decode cX2_nextToken 58 = .ok (.getfield 15, 3) := by decide +kernel
theorem dX2_nextToken_61 : decode cX2_nextToken 61 = .ok (.if_icmp .lt 9, 3) := by decide +kernel
theorem dX2_nextToken_64 : decode cX2_nextToken 64 = .ok (.aload_n 0, 1) := by decide +kernel
theorem dX2_nextToken_65 : decode cX2_nextToken 65 = .ok (.iconst 0, 1) := by decide +kernel
theorem dX2_nextToken_66 : decode cX2_nextToken 66 = .ok (.putfield 19, 3) := by decide +kernel
theorem dX2_nextToken_69 : decode cX2_nextToken 69 = .ok (.return_, 1) := by decide +kernel
theorem dX2_nextToken_70 : decode cX2_nextToken 70 = .ok (.aload_n 0, 1) := by decide +kernel
theorem dX2_nextToken_71 : decode cX2_nextToken 71 = .ok (.aload_n 0, 1) := by decide +kernel
theorem dX2_nextToken_72 : decode cX2_nextToken 72 = .ok (.getfield 11, 3) := by decide +kernel
theorem dX2_nextToken_75 : decode cX2_nextToken 75 = .ok (.aload_n 0, 1) := by decide +kernel
theorem dX2_nextToken_76 : decode cX2_nextToken 76 = .ok (.getfield 25, 3) := by decide +kernel
theorem dX2_nextToken_79 : decode cX2_nextToken 79 = .ok (.iaload, 1) := by decide +kernel
theorem dX2_nextToken_80 : decode cX2_nextToken 80 = .ok (.invokestatic 128, 3) := by decide +kernel
theorem dX2_nextToken_83 : decode cX2_nextToken 83 = .ok (.putfield 19, 3) := by decide +kernel
theorem dX2_nextToken_86 : decode cX2_nextToken 86 = .ok (.aload_n 0, 1) := by decide +kernel
theorem dX2_nextToken_87 : decode cX2_nextToken 87 = .ok (.getfield 19, 3) := by decide +kernel
theorem dX2_nextToken_90 : decode cX2_nextToken 90 = .ok (.iconst 1, 1) := by decide +kernel
theorem dX2_nextToken_91 : decode cX2_nextToken 91 = .ok (.if_icmp .eq 11, 3) := by decide +kernel
theorem dX2_nextToken_94 : decode cX2_nextToken 94 = .ok (.aload_n 0, 1) := by decide +kernel
theorem dX2_nextToken_95 : decode cX2_nextToken 95 = .ok (.getfield 19, 3) := by decide +kernel
theorem dX2_nextToken_98 : decode cX2_nextToken 98 = .ok (.iconst 2, 1) := by decide +kernel
theorem dX2_nextToken_99 : decode cX2_nextToken 99 = .ok (.if_icmp .ne 7, 3) := by decide +kernel
theorem dX2_nextToken_102 : decode cX2_nextToken 102 = .ok (.iconst 1, 1) := by decide +kernel
theorem dX2_nextToken_103 : decode cX2_nextToken 103 = .ok (.goto 4, 3) := by decide +kernel
theorem dX2_nextToken_106 : decode cX2_nextToken 106 = .ok (.iconst 0, 1) := by decide +kernel
theorem dX2_nextToken_107 : decode cX2_nextToken 107 = .ok (.istore_n 1, 1) := by decide +kernel
theorem dX2_nextToken_108 : decode cX2_nextToken 108 = .ok (.aload_n 0, 1) := by decide +kernel
theorem dX2_nextToken_109 : decode cX2_nextToken 109 = .ok (.getfield 19, 3) := by decide +kernel
theorem dX2_nextToken_112 : decode cX2_nextToken 112 = .ok (.iconst 2, 1) := by decide +kernel
theorem dX2_nextToken_113 : decode cX2_nextToken 113 = .ok (.if_icmp .ne 33, 3) := by decide +kernel
theorem dX2_nextToken_116 : decode cX2_nextToken 116 = .ok (.aload_n 0, 1) := by decide +kernel
theorem dX2_nextToken_117 : decode cX2_nextToken 117 = .ok (.sipush 1000, 3) := by decide +kernel
theorem dX2_nextToken_120 : decode cX2_nextToken 120 = .ok (.bipush 10, 2) := by decide +kernel
theorem dX2_nextToken_122 : decode cX2_nextToken 122 = .ok (.aload_n 0, 1) := by decide +kernel
theorem dX2_nextToken_123 : decode cX2_nextToken 123 = .ok (.getfield 28, 3) := by decide +kernel
theorem dX2_nextToken_126 : decode cX2_nextToken 126 = .ok (.imul, 1) := by decide +kernel
theorem dX2_nextToken_127 : decode cX2_nextToken 127 = .ok (.aload_n 0, 1) := by decide +kernel
theorem dX2_nextToken_128 : decode cX2_nextToken 128 = .ok (.getfield 11, 3) := by decide +kernel
theorem dX2_nextToken_131 : decode cX2_nextToken 131 = .ok (.aload_n 0, 1) := by decide +kernel
theorem dX2_nextToken_132 : decode cX2_nextToken 132 = .ok (.getfield 25, 3) := by decide +kernel
theorem dX2_nextToken_135 : decode cX2_nextToken 135 = .ok (.iaload, 1) := by decide +kernel
theorem dX2_nextToken_136 : decode cX2_nextToken 136 = .ok (.iadd, 1) := by decide +kernel
theorem dX2_nextToken_137 : decode cX2_nextToken 137 = .ok (.bipush 48, 2) := by decide +kernel
theorem dX2_nextToken_139 : decode cX2_nextToken 139 = .ok (.isub, 1) := by decide +kernel
theorem dX2_nextToken_140 : decode cX2_nextToken 140 = .ok (.invokestatic 131, 3) := by decide +kernel
theorem dX2_nextToken_143 : decode cX2_nextToken 143 = .ok (.putfield 28, 3) := by decide +kernel
theorem dX2_nextToken_146 : decode cX2_nextToken 146 = .ok (.aload_n 0, 1) := by decide +kernel
theorem dX2_nextToken_147 : decode cX2_nextToken 147 = .ok (.dup, 1) := by decide +kernel
theorem dX2_nextToken_148 : decode cX2_nextToken 148 = .ok (.getfield 25, 3) := by decide +kernel
theorem dX2_nextToken_151 : decode cX2_nextToken 151 = .ok (.iconst 1, 1) := by decide +kernel
theorem dX2_nextToken_152 : decode cX2_nextToken 152 = .ok (.iadd, 1) := by decide +kernel
theorem dX2_nextToken_153 : decode cX2_nextToken 153 = .ok (.putfield 25, 3) := by decide +kernel
theorem dX2_nextToken_156 : decode cX2_nextToken 156 = .ok (.iload_n 1, 1) := by decide +kernel
theorem dX2_nextToken_157 : decode cX2_nextToken 157 = .ok (.ifCond .eq 33, 3) := by decide +kernel
theorem dX2_nextToken_160 : decode cX2_nextToken 160 = .ok (.aload_n 0, 1) := by decide +kernel
theorem dX2_nextToken_161 : decode cX2_nextToken 161 = .ok (.getfield 25, 3) := by decide +kernel
theorem dX2_nextToken_164 : decode cX2_nextToken 164 = .ok (.aload_n 0, 1) := by decide +kernel
theorem dX2_nextToken_165 : decode cX2_nextToken 165 = .ok (.getfield 15, 3) := by decide +kernel
theorem dX2_nextToken_168 : decode cX2_nextToken 168 = .ok (.if_icmp .ge 22, 3) := by decide +kernel
theorem dX2_nextToken_171 : decode cX2_nextToken 171 = .ok (.aload_n 0, 1) := by decide +kernel
theorem dX2_nextToken_172 : decode cX2_nextToken 172 = .ok (.getfield 11, 3) := by decide +kernel
theorem dX2_nextToken_175 : decode cX2_nextToken 175 = .ok (.aload_n 0, 1) := by decide +kernel
theorem dX2_nextToken_176 : decode cX2_nextToken 176 = .ok (.getfield 25, 3) := by decide +kernel
theorem dX2_nextToken_179 : decode cX2_nextToken 179 = .ok (.iaload, 1) := by decide +kernel
theorem dX2_nextToken_180 : decode cX2_nextToken 180 = .ok (.invokestatic 128, 3) := by decide +kernel
theorem dX2_nextToken_183 : decode cX2_nextToken 183 = .ok (.aload_n 0, 1) := by decide +kernel
theorem dX2_nextToken_184 : decode cX2_nextToken 184 = .ok (.getfield 19, 3) := by decide +kernel
theorem dX2_nextToken_187 : decode cX2_nextToken 187 = .ok (.if_icmp .eq (-79), 3) := by decide +kernel
theorem dX2_nextToken_190 : decode cX2_nextToken 190 = .ok (.return_, 1) := by decide +kernel
theorem dX2_sortOf_0 : decode cX2_sortOf 0 = .ok (.iload_n 0, 1) := by decide +kernel
theorem dX2_sortOf_1 : decode cX2_sortOf 1 = .ok (.bipush 97, 2) := by decide +kernel
theorem dX2_sortOf_3 : decode cX2_sortOf 3 = .ok (.if_icmp .lt 11, 3) := by decide +kernel
theorem dX2_sortOf_6 : decode cX2_sortOf 6 = .ok (.iload_n 0, 1) := by decide +kernel
theorem dX2_sortOf_7 : decode cX2_sortOf 7 = .ok (.bipush 122, 2) := by decide +kernel
theorem dX2_sortOf_9 : decode cX2_sortOf 9 = .ok (.if_icmp .gt 5, 3) := by decide +kernel
theorem dX2_sortOf_12 : decode cX2_sortOf 12 = .ok (.iconst 1, 1) := by decide +kernel
theorem dX2_sortOf_13 : decode cX2_sortOf 13 = .ok (.ireturn, 1) := by decide +kernel
theorem dX2_sortOf_14 : decode cX2_sortOf 14 = .ok (.iload_n 0, 1) := by decide +kernel
theorem dX2_sortOf_15 : decode cX2_sortOf 15 = .ok (.bipush 48, 2) := by decide +kernel
theorem dX2_sortOf_17 : decode cX2_sortOf 17 = .ok (.if_icmp .lt 11, 3) := by decide +kernel
theorem dX2_sortOf_20 : decode cX2_sortOf 20 = .ok (.iload_n 0, 1) := by decide +kernel
theorem dX2_sortOf_21 : decode cX2_sortOf 21 = .ok (.bipush 57, 2) := by decide +kernel
theorem dX2_sortOf_23 : decode cX2_sortOf 23 = .ok (.if_icmp .gt 5, 3) := by decide +kernel
theorem dX2_sortOf_26 : decode cX2_sortOf 26 = .ok (.iconst 2, 1) := by decide +kernel
theorem dX2_sortOf_27 : decode cX2_sortOf 27 = .ok (.ireturn, 1) := by decide +kernel
theorem dX2_sortOf_28 : decode cX2_sortOf 28 = .ok (.iload_n 0, 1) := by decide +kernel
theorem dX2_sortOf_29 : decode cX2_sortOf 29 = .ok (.bipush 59, 2) := by decide +kernel
theorem dX2_sortOf_31 : decode cX2_sortOf 31 = .ok (.if_icmp .ne 7, 3) := by decide +kernel
theorem dX2_sortOf_34 : decode cX2_sortOf 34 = .ok (.iconst 3, 1) := by decide +kernel
theorem dX2_sortOf_35 : decode cX2_sortOf 35 = .ok (.goto 14, 3) := by decide +kernel
theorem dX2_sortOf_38 : decode cX2_sortOf 38 = .ok (.iload_n 0, 1) := by decide +kernel
theorem dX2_sortOf_39 : decode cX2_sortOf 39 = .ok (.bipush 32, 2) := by decide +kernel
theorem dX2_sortOf_41 : decode cX2_sortOf 41 = .ok (.if_icmp .ne 7, 3) := by decide +kernel
theorem dX2_sortOf_44 : decode cX2_sortOf 44 = .ok (.iconst 4, 1) := by decide +kernel
theorem dX2_sortOf_45 : decode cX2_sortOf 45 = .ok (.goto 4, 3) := by decide +kernel
theorem dX2_sortOf_48 : decode cX2_sortOf 48 = .ok (.iconst 5, 1) := by decide +kernel
theorem dX2_sortOf_49 : decode cX2_sortOf 49 = .ok (.ireturn, 1) := by decide +kernel
end
section
theorem dX3_init_0 : decode cX3_init 0 = .ok (.aload_n 0, 1) := by decide +kernel
theorem dX3_init_1 : decode cX3_init 1 = .ok (.invokespecial 3, 3) := by decide +kernel
theorem dX3_init_4 : decode cX3_init 4 = .ok (.aload_n 0, 1) := by decide +kernel
theorem dX3_init_5 : decode cX3_init 5 = .ok (.bipush 8, 2) := by decide +kernel
theorem dX3_init_7 : decode cX3_init 7 = .ok (.newarray .int, 2) := by decide +kernel
theorem dX3_init_9 : decode cX3_init 9 = .ok (.putfield 9, 3) := by decide +kernel
theorem dX3_init_12 : decode cX3_init 12 = .ok (.aload_n 0, 1) := by decide +kernel
theorem dX3_init_13 : decode cX3_init 13 = .ok (.bipush 8, 2) := by decide +kernel
theorem dX3_init_15 : decode cX3_init 15 = .ok (.newarray .int, 2) := by decide +kernel
theorem dX3_init_17 : decode cX3_init 17 = .ok (.putfield 15, 3) := by decide +kernel
theorem dX3_init_20 : decode cX3_init 20 = .ok (.aload_n 0, 1) := by decide +kernel
theorem dX3_init_21 : decode cX3_init 21 = .ok (.bipush 8, 2) := by decide +kernel
theorem dX3_init_23 : decode cX3_init 23 = .ok (.newarray .int, 2) := by decide +kernel
theorem dX3_init_25 : decode cX3_init 25 = .ok (.putfield 18, 3) := by decide +kernel
theorem dX3_init_28 : decode cX3_init 28 = .ok (.aload_n 0, 1) := by decide +kernel
theorem dX3_init_29 : decode cX3_init 29 = .ok (.bipush 8, 2) := by decide +kernel
theorem dX3_init_31 : decode cX3_init 31 = .ok (.newarray .int, 2) := by decide +kernel
theorem dX3_init_33 : decode cX3_init 33 = .ok (.putfield 21, 3) := by decide +kernel
theorem dX3_init_36 : decode cX3_init 36 = .ok (.aload_n 0, 1) := by decide +kernel
theorem dX3_init_37 : decode cX3_init 37 = .ok (.iconst 0, 1) := by decide +kernel
theorem dX3_init_38 : decode cX3_init 38 = .ok (.putfield 24, 3) := by decide +kernel
theorem dX3_init_41 : decode cX3_init 41 = .ok (.aload_n 0, 1) := by decide +kernel
theorem dX3_init_42 : decode cX3_init 42 = .ok (.bipush 10, 2) := by decide +kernel
theorem dX3_init_44 : decode cX3_init 44 = .ok (.newarray .int, 2) := by decide +kernel
theorem dX3_init_46 : decode cX3_init 46 = .ok (.putfield 28, 3) := by decide +kernel
theorem dX3_init_49 : decode cX3_init 49 = .ok (.aload_n 0, 1) := by decide +kernel
theorem dX3_init_50 : decode cX3_init 50 = .ok (.bipush 10, 2) := by decide +kernel
theorem dX3_init_52 : decode cX3_init 52 = .ok (.newarray .int, 2) := by decide +kernel
theorem dX3_init_54 : decode cX3_init 54 = .ok (.putfield 31, 3) := by decide +kernel
theorem dX3_init_57 : decode cX3_init 57 = .ok (.aload_n 0, 1) := by decide +kernel
theorem dX3_init_58 : decode cX3_init 58 = .ok (.bipush 10, 2) := by decide +kernel
theorem dX3_init_60 : decode cX3_init 60 = .ok (.newarray .int, 2) := by decide +kernel
theorem dX3_init_62 : decode cX3_init 62 = .ok (.putfield 34, 3) := by decide +kernel
theorem dX3_init_65 : decode cX3_init 65 = .ok (.aload_n 0, 1) := by decide +kernel
theorem dX3_init_66 : decode cX3_init 66 = .ok (.bipush 10, 2) := by decide +kernel
theorem dX3_init_68 : decode cX3_init 68 = .ok (.newarray .int, 2) := by decide +kernel
theorem dX3_init_70 : decode cX3_init 70 = .ok (.putfield 37, 3) := by decide +kernel
theorem dX3_init_73 : decode cX3_init 73 = .ok (.aload_n 0, 1) := by decide +kernel
theorem dX3_init_74 : decode cX3_init 74 = .ok (.bipush 10, 2) := by decide +kernel
theorem dX3_init_76 : decode cX3_init 76 = .ok (.newarray .int, 2) := by decide +kernel
theorem dX3_init_78 : decode cX3_init 78 = .ok (.putfield 40, 3) := by decide +kernel
theorem dX3_init_81 : decode cX3_init 81 = .ok (.aload_n 0, 1) := by decide +kernel
theorem dX3_init_82 : decode cX3_init 82 = .ok (.iconst 0, 1) := by decide +kernel
theorem dX3_init_83 : decode cX3_init 83 = .ok (.putfield 43, 3) := by decide +kernel
theorem dX3_init_86 : decode cX3_init 86 = .ok (.aload_n 0, 1) := by decide +kernel
theorem dX3_init_87 : decode cX3_init 87 = .ok (.iconst 0, 1) := by decide +kernel
theorem dX3_init_88 : decode cX3_init 88 = .ok (.putfield 46, 3) := by decide +kernel
theorem dX3_init_91 : decode cX3_init 91 = .ok (.iconst 0, 1) := by decide +kernel
theorem dX3_init_92 : decode cX3_init 92 = .ok (.istore_n 1, 1) := by decide +kernel
theorem dX3_init_93 : decode cX3_init 93 = .ok (.iload_n 1, 1) := by decide +kernel
theorem dX3_init_94 : decode cX3_init 94 = .ok (.bipush 8, 2) := by decide +kernel
theorem dX3_init_96 : decode cX3_init 96 = .ok (.if_icmp .ge 31, 3) := by decide +kernel
theorem dX3_init_99 : decode cX3_init 99 = .ok (.aload_n 0, 1) := by decide +kernel
theorem dX3_init_100 : decode cX3_init 100 = .ok (.getfield 9, 3) := by decide +kernel
theorem dX3_init_103 : decode cX3_init 103 = .ok (.iload_n 1, 1) := by decide +kernel
theorem dX3_init_104 : decode cX3_init 104 = .ok (.iconst 1, 1) := by decide +kernel
theorem dX3_init_105 : decode cX3_init 105 = .ok (.iastore, 1) := by decide +kernel
theorem dX3_init_106 : decode cX3_init 106 = .ok (.aload_n 0, 1) := by decide +kernel
theorem dX3_init_107 : decode cX3_init 107 = .ok (.getfield 15, 3) := by decide +kernel
theorem dX3_init_110 : decode cX3_init 110 = .ok (.iload_n 1, 1) := by decide +kernel
theorem dX3_init_111 : decode cX3_init 111 = .ok (.bipush 50, 2) := by decide +kernel
theorem dX3_init_113 : decode cX3_init 113 = .ok (.iastore, 1) := by decide +kernel
theorem dX3_init_114 : decode cX3_init 114 = .ok (.aload_n 0, 1) := by decide +kernel
theorem dX3_init_115 : decode cX3_init 115 = .ok (.getfield 18, 3) := by decide +kernel
theorem dX3_init_118 : decode cX3_init 118 = .ok (.iload_n 1, 1) := by decide +kernel
theorem dX3_init_119 : decode cX3_init 119 = .ok (.iconst 3, 1) := by decide +kernel
theorem dX3_init_120 : decode cX3_init 120 = .ok (.iastore, 1) := by decide +kernel
theorem dX3_init_121 : decode cX3_init 121 = .ok (.iinc 1 1, 3) := by decide +kernel
theorem dX3_init_124 : decode cX3_init 124 = .ok (.goto (-31), 3) := by decide +kernel
theorem dX3_init_127 : decode cX3_init 127 = .ok (.return_, 1) := by decide +kernel
theorem dX3_becomes_0 : decode cX3_becomes 0 = .ok (.aload_n 1, 1) := by decide +kernel
theorem dX3_becomes_1 : decode cX3_becomes 1 = .ok (.getfield 9, 3) := by decide +kernel
theorem dX3_becomes_4 : decode cX3_becomes 4 = .ok (.iconst 0, 1) := by decide +kernel
theorem dX3_becomes_5 : decode cX3_becomes 5 = .ok (.aload_n 0, 1) := by decide +kernel
theorem dX3_becomes_6 : decode cX3_becomes 6 = .ok (.getfield 9, 3) := by decide +kernel
theorem dX3_becomes_9 : decode cX3_becomes 9 = .ok (.iconst 0, 1) := by decide +kernel
theorem dX3_becomes_10 : decode cX3_becomes 10 = .ok (.bipush 8, 2) := by decide +kernel
theorem dX3_becomes_12 : decode cX3_becomes 12 = .ok (.invokestatic 49, 3) := by decide +kernel
theorem dX3_becomes_15 : decode cX3_becomes 15 = .ok (.aload_n 1, 1) := by decide +kernel
theorem dX3_becomes_16 : decode cX3_becomes 16 = .ok (.getfield 15, 3) := by decide +kernel
theorem dX3_becomes_19 : decode cX3_becomes 19 = .ok (.iconst 0, 1) := by decide +kernel
theorem dX3_becomes_20 : decode cX3_becomes 20 = .ok (.aload_n 0, 1) := by decide +kernel
theorem dX3_becomes_21 : decode cX3_becomes 21 = .ok (.getfield 15, 3) := by decide +kernel
theorem dX3_becomes_24 : decode cX3_becomes 24 = .ok (.iconst 0, 1) := by decide +kernel
theorem dX3_becomes_25 : decode cX3_becomes 25 = .ok (.bipush 8, 2) := by decide +kernel
theorem dX3_becomes_27 : decode cX3_becomes 27 = .ok (.invokestatic 49, 3) := by decide +kernel
theorem dX3_becomes_30 : decode cX3_becomes 30 = .ok (.aload_n 1, 1) := by decide +kernel
theorem dX3_becomes_31 : decode cX3_becomes 31 = .ok (.getfield 18, 3) := by decide +kernel
theorem dX3_becomes_34 : decode cX3_becomes 34 = .ok (.iconst 0, 1) := by decide +kernel
theorem dX3_becomes_35 : decode cX3_becomes 35 = .ok (.aload_n 0, 1) := by decide +kernel
theorem dX3_becomes_36 : decode cX3_becomes 36 = .ok (.getfield 18, 3) := by decide +kernel
theorem dX3_becomes_39 : decode cX3_becomes 39 = .ok (.iconst 0, 1) := by decide +kernel
theorem dX3_becomes_40 : decode cX3_becomes 40 = .ok (.bipush 8, 2) := by decide +kernel
theorem dX3_becomes_42 : decode cX3_becomes 42 = .ok (.invokestatic 49, 3) := by decide +kernel
theorem dX3_becomes_45 : decode cX3_becomes 45 = .ok (.aload_n 1, 1) := by decide +kernel
theorem dX3_becomes_46 : decode cX3_becomes 46 = .ok (.getfield 21, 3) := by decide +kernel
theorem dX3_becomes_49 : decode cX3_becomes 49 = .ok (.iconst 0, 1) := by decide +kernel
theorem dX3_becomes_50 : decode cX3_becomes 50 = .ok (.aload_n 0, 1) := by decide +kernel
theorem dX3_becomes_51 : decode cX3_becomes 51 = .ok (.getfield 21, 3) := by decide +kernel
theorem dX3_becomes_54 : decode cX3_becomes 54 = .ok (.iconst 0, 1) := by decide +kernel
theorem dX3_becomes_55 : decode cX3_becomes 55 = .ok (.bipush 8, 2) := by decide +kernel
theorem dX3_becomes_57 : decode cX3_becomes 57 = .ok (.invokestatic 49, 3) := by decide +kernel
theorem dX3_becomes_60 : decode cX3_becomes 60 = .ok (.aload_n 1, 1) := by decide +kernel
theorem dX3_becomes_61 : decode cX3_becomes 61 = .ok (.getfield 28, 3) := by decide +kernel
theorem dX3_becomes_64 : decode cX3_becomes 64 = .ok (.iconst 0, 1) := by decide +kernel
theorem dX3_becomes_65 : decode cX3_becomes 65 = .ok (.aload_n 0, 1) := by decide +kernel
theorem dX3_becomes_66 : decode cX3_becomes 66 = .ok (.getfield 28, 3) := by decide +kernel
theorem dX3_becomes_69 : decode cX3_becomes 69 = .ok (.iconst 0, 1) := by decide +kernel
theorem dX3_becomes_70 : decode cX3_becomes 70 = .ok (.bipush 10, 2) := by decide +kernel
theorem dX3_becomes_72 : decode cX3_becomes 72 = .ok (.invokestatic 49, 3) := by decide +kernel
theorem dX3_becomes_75 : decode cX3_becomes 75 = .ok (.aload_n 1, 1) := by decide +kernel
theorem dX3_becomes_76 : decode cX3_becomes 76 = .ok (.getfield 31, 3) := by decide +kernel
theorem dX3_becomes_79 : decode cX3_becomes 79 = .ok (.iconst 0, 1) := by decide +kernel
theorem dX3_becomes_80 : decode cX3_becomes 80 = .ok (.aload_n 0, 1) := by decide +kernel
theorem dX3_becomes_81 : decode cX3_becomes 81 = .ok (.getfield 31, 3) := by decide +kernel
theorem dX3_becomes_84 : decode cX3_becomes 84 = .ok (.iconst 0, 1) := by decide +kernel
theorem dX3_becomes_85 : decode cX3_becomes 85 = .ok (.bipush 10, 2) := by decide +kernel
theorem dX3_becomes_87 : decode cX3_becomes 87 = .ok (.invokestatic 49, 3) := by decide +kernel
theorem dX3_becomes_90 : decode cX3_becomes 90 = .ok (.aload_n 1, 1) := by decide +kernel
theorem dX3_becomes_91 : decode cX3_becomes 91 = .ok (.getfield 34, 3) := by decide +kernel
theorem dX3_becomes_94 : decode cX3_becomes 94 = .ok (.iconst 0, 1) := by decide +kernel
theorem dX3_becomes_95 : decode cX3_becomes 95 = .ok (.aload_n 0, 1) := by decide +kernel
theorem dX3_becomes_96 : decode cX3_becomes 96 = .ok (.getfield 34, 3) := by decide +kernel
theorem dX3_becomes_99 : decode cX3_becomes 99 = .ok (.iconst 0, 1) := by decide +kernel
theorem dX3_becomes_100 : decode cX3_becomes 100 = .ok (.bipush 10, 2) := by decide +kernel
theorem dX3_becomes_102 : decode cX3_becomes 102 = .ok (.invokestatic 49, 3) := by decide +kernel
theorem dX3_becomes_105 : decode cX3_becomes 105 = .ok (.aload_n 1, 1) := by decide +kernel
theorem dX3_becomes_106 : decode cX3_becomes 106 = .ok (.getfield 37, 3) := by decide +kernel
theorem dX3_becomes_109 : decode cX3_becomes 109 = .ok (.iconst 0, 1) := by decide +kernel
theorem dX3_becomes_110 : decode cX3_becomes 110 = .ok (.aload_n 0, 1) := by decide +kernel
theorem dX3_becomes_111 : decode cX3_becomes 111 = .ok (.getfield 37, 3) := by decide +kernel
theorem dX3_becomes_114 : decode cX3_becomes 114 = .ok (.iconst 0, 1) := by decide +kernel
theorem dX3_becomes_115 : decode cX3_becomes 115 = .ok (.bipush 10, 2) := by decide +kernel
theorem dX3_becomes_117 : decode cX3_becomes 117 = .ok (.invokestatic 49, 3) := by decide +kernel
theorem dX3_becomes_120 : decode cX3_becomes 120 = .ok (.aload_n 1, 1) := by decide +kernel
theorem dX3_becomes_121 : decode cX3_becomes 121 = .ok (.getfield 40, 3) := by decide +kernel
theorem dX3_becomes_124 : decode cX3_becomes 124 = .ok (.iconst 0, 1) := by decide +kernel
theorem dX3_becomes_125 : decode cX3_becomes 125 = .ok (.aload_n 0, 1) := by decide +kernel
theorem dX3_becomes_126 : decode cX3_becomes 126 = .ok (.getfield 40, 3) := by decide +kernel
theorem dX3_becomes_129 : decode cX3_becomes 129 = .ok (.iconst 0, 1) := by decide +kernel
theorem dX3_becomes_130 : decode cX3_becomes 130 = .ok (.bipush 10, 2) := by decide +kernel
theorem dX3_becomes_132 : decode cX3_becomes 132 = .ok (.invokestatic 49, 3) := by decide +kernel
theorem dX3_becomes_135 : decode cX3_becomes 135 = .ok (.aload_n 0, 1) := by decide +kernel
theorem dX3_becomes_136 : decode cX3_becomes 136 = .ok (.aload_n 1, 1) := by decide +kernel
theorem dX3_becomes_137 : decode cX3_becomes 137 = .ok (.getfield 24, 3) := by decide +kernel
theorem dX3_becomes_140 : decode cX3_becomes 140 = .ok (.putfield 24, 3) := by decide +kernel
theorem dX3_becomes_143 : decode cX3_becomes 143 = .ok (.aload_n 0, 1) := by decide +kernel
theorem dX3_becomes_144 : decode cX3_becomes 144 = .ok (.aload_n 1, 1) := by decide +kernel
theorem dX3_becomes_145 : decode cX3_becomes 145 = .ok (.getfield 43, 3) := by decide +kernel
theorem dX3_becomes_148 : decode cX3_becomes 148 = .ok (.putfield 43, 3) := by decide +kernel
theorem dX3_becomes_151 : decode cX3_becomes 151 = .ok (.aload_n 0, 1) := by decide +kernel
theorem dX3_becomes_152 : decode cX3_becomes 152 = .ok (.aload_n 1, 1) := by decide +kernel
theorem dX3_becomes_153 : decode cX3_becomes 153 = .ok (.getfield 46, 3) := by decide +kernel
theorem dX3_becomes_156 : decode cX3_becomes 156 = .ok (.putfield 46, 3) := by decide +kernel
theorem dX3_becomes_159 : decode cX3_becomes 159 = .ok (.return_, 1) := by decide +kernel
theorem dX3_isFull_0 : decode cX3_isFull 0 = .ok (.aload_n 0, 1) := by decide +kernel
theorem dX3_isFull_1 : decode cX3_isFull 1 = .ok (.getfield 24, 3) := by decide +kernel
theorem dX3_isFull_4 : decode cX3_isFull 4 = .ok (.bipush 10, 2) := by decide +kernel
theorem dX3_isFull_6 : decode cX3_isFull 6 = .ok (.if_icmp .lt 7, 3) := by decide +kernel
theorem dX3_isFull_9 : decode cX3_isFull 9 = .ok (.iconst 1, 1) := by decide +kernel
theorem dX3_isFull_10 : decode cX3_isFull 10 = .ok (.goto 4, 3) := by decide +kernel
theorem dX3_isFull_13 : decode cX3_isFull 13 = .ok (.iconst 0, 1) := by decide +kernel
theorem dX3_isFull_14 : decode cX3_isFull 14 = .ok (.ireturn, 1) := by decide +kernel
theorem dX3_addOne_0 : decode cX3_addOne 0 = .ok (.aload_n 0, 1) := by decide +kernel
theorem dX3_addOne_1 : decode cX3_addOne 1 = .ok (.invokevirtual 55, 3) := by decide +kernel
theorem dX3_addOne_4 : decode cX3_addOne 4 = .ok (.ifCond .eq 5, 3) := by decide +kernel
theorem dX3_addOne_7 : decode cX3_addOne 7 = .ok (.iconst (-1), 1) := by decide +kernel
theorem dX3_addOne_8 : decode cX3_addOne 8 = .ok (.ireturn, 1) := by decide +kernel
theorem dX3_addOne_9 : decode cX3_addOne 9 = .ok (.aload_n 0, 1) := by decide +kernel
theorem dX3_addOne_10 : decode cX3_addOne 10 = .ok (.getfield 24, 3) := by decide +kernel
theorem dX3_addOne_13 : decode cX3_addOne 13 = .ok (.istore 4, 2) := by decide +kernel
theorem dX3_addOne_15 : decode cX3_addOne 15 = .ok (.aload_n 0, 1) := by decide +kernel
theorem dX3_addOne_16 : decode cX3_addOne 16 = .ok (.getfield 28, 3) := by decide +kernel
theorem dX3_addOne_19 : decode cX3_addOne 19 = .ok (.iload 4, 2) := by decide +kernel
theorem dX3_addOne_21 : decode cX3_addOne 21 = .ok (.iload_n 1, 1) := by decide +kernel
theorem dX3_addOne_22 : decode cX3_addOne 22 = .ok (.iastore, 1) := by decide +kernel
theorem dX3_addOne_23 : decode cX3_addOne 23 = .ok (.aload_n 0, 1) := by decide +kernel
theorem dX3_addOne_24 : decode cX3_addOne 24 = .ok (.getfield 31, 3) := by decide +kernel
theorem dX3_addOne_27 : decode cX3_addOne 27 = .ok (.iload 4, 2) := by decide +kernel
theorem dX3_addOne_29 : decode cX3_addOne 29 = .ok (.iload_n 2, 1) := by decide +kernel
theorem dX3_addOne_30 : decode cX3_addOne 30 = .ok (.iastore, 1) := by decide +kernel
theorem dX3_addOne_31 : decode cX3_addOne 31 = .ok (.aload_n 0, 1) := by decide +kernel
theorem dX3_addOne_32 : decode cX3_addOne 32 = .ok (.getfield 34, 3) := by decide +kernel
theorem dX3_addOne_35 : decode cX3_addOne 35 = .ok (.iload 4, 2) := by decide +kernel
theorem dX3_addOne_37 : decode cX3_addOne 37 = .ok (.iload_n 3, 1) := by decide +kernel
theorem dX3_addOne_38 : decode cX3_addOne 38 = .ok (.iastore, 1) := by decide +kernel
theorem dX3_addOne_39 : decode cX3_addOne 39 = .ok (.aload_n 0, 1) := by decide +kernel
theorem dX3_addOne_40 : decode cX3_addOne 40 = .ok (.getfield 37, 3) := by decide +kernel
theorem dX3_addOne_43 : decode cX3_addOne 43 = .ok (.iload 4, 2) := by decide +kernel
theorem dX3_addOne_45 : decode cX3_addOne 45 = .ok (.iconst 0, 1) := by decide +kernel
theorem dX3_addOne_46 : decode cX3_addOne 46 = .ok (.iastore, 1) := by decide +kernel
theorem dX3_addOne_47 : decode cX3_addOne 47 = .ok (.aload_n 0, 1) := by decide +kernel
theorem dX3_addOne_48 : decode cX3_addOne 48 = .ok (.getfield 40, 3) := by decide +kernel
theorem dX3_addOne_51 : decode cX3_addOne 51 = .ok (.iload 4, 2) := by decide +kernel
theorem dX3_addOne_53 : decode cX3_addOne 53 = .ok (.iconst (-1), 1) := by decide +kernel
theorem dX3_addOne_54 : decode cX3_addOne 54 = .ok (.iastore, 1) := by decide +kernel
theorem dX3_addOne_55 : decode cX3_addOne 55 = .ok (.aload_n 0, 1) := by decide +kernel
theorem dX3_addOne_56 : decode cX3_addOne 56 = .ok (.dup, 1) := by decide +kernel
theorem dX3_addOne_57 : decode cX3_addOne 57 = .ok (.getfield 24, 3) := by decide +kernel
theorem dX3_addOne_60 : decode cX3_addOne 60 = .ok (.iconst 1, 1) := by decide +kernel
theorem dX3_addOne_61 : decode cX3_addOne 61 = .ok (.iadd, 1) := by decide +kernel
theorem dX3_addOne_62 : decode cX3_addOne 62 = .ok (.putfield 24, 3) := by decide +kernel
theorem dX3_addOne_65 : decode cX3_addOne 65 = .ok (.iload 4, 2) := by decide +kernel
theorem dX3_addOne_67 : decode cX3_addOne 67 = .ok (.ireturn, 1) := by decide +kernel
theorem dX3_eatsOf_0 : decode cX3_eatsOf 0 = .ok (.aload_n 0, 1) := by decide +kernel
theorem dX3_eatsOf_1 : decode cX3_eatsOf 1 = .ok (.getfield 28, 3) := by decide +kernel
theorem dX3_eatsOf_4 : decode cX3_eatsOf 4 = .ok (.iload_n 1, 1) := by decide +kernel
theorem dX3_eatsOf_5 : decode cX3_eatsOf 5 = .ok (.iaload, 1) := by decide +kernel
theorem dX3_eatsOf_6 : decode cX3_eatsOf 6 = .ok (.aload_n 0, 1) := by decide +kernel
theorem dX3_eatsOf_7 : decode cX3_eatsOf 7 = .ok (.getfield 34, 3) := by decide +kernel
theorem dX3_eatsOf_10 : decode cX3_eatsOf 10 = .ok (.iload_n 1, 1) := by decide +kernel
theorem dX3_eatsOf_11 : decode cX3_eatsOf 11 = .ok (.iaload, 1) := by decide +kernel
theorem dX3_eatsOf_12 : decode cX3_eatsOf 12 = .ok (.aload_n 0, 1) := by decide +kernel
theorem dX3_eatsOf_13 : decode cX3_eatsOf 13 = .ok (.getfield 37, 3) := by decide +kernel
theorem dX3_eatsOf_16 : decode cX3_eatsOf 16 = .ok (.iload_n 1, 1) := by decide +kernel
theorem dX3_eatsOf_17 : decode cX3_eatsOf 17 = .ok (.iaload, 1) := by decide +kernel
theorem dX3_eatsOf_18 : decode cX3_eatsOf 18 = .ok (.invokestatic 59, 3) := by decide +kernel
theorem dX3_eatsOf_21 : decode cX3_eatsOf 21 = .ok (.ireturn, 1) := by decide +kernel
theorem dX3_needsOf_0 : decode cX3_needsOf 0 = .ok (.aload_n 0, 1) := by decide +kernel
theorem dX3_needsOf_1 : decode cX3_needsOf 1 = .ok (.getfield 28, 3) := by decide +kernel
theorem dX3_needsOf_4 : decode cX3_needsOf 4 = .ok (.iload_n 1, 1) := by decide +kernel
theorem dX3_needsOf_5 : decode cX3_needsOf 5 = .ok (.iaload, 1) := by decide +kernel
theorem dX3_needsOf_6 : decode cX3_needsOf 6 = .ok (.aload_n 0, 1) := by decide +kernel
theorem dX3_needsOf_7 : decode cX3_needsOf 7 = .ok (.getfield 34, 3) := by decide +kernel
theorem dX3_needsOf_10 : decode cX3_needsOf 10 = .ok (.iload_n 1, 1) := by decide +kernel
theorem dX3_needsOf_11 : decode cX3_needsOf 11 = .ok (.iaload, 1) := by decide +kernel
theorem dX3_needsOf_12 : decode cX3_needsOf 12 = .ok (.invokestatic 65, 3) := by decide +kernel
theorem dX3_needsOf_15 : decode cX3_needsOf 15 = .ok (.ireturn, 1) := by decide +kernel
theorem dX3_growsOf_0 : decode cX3_growsOf 0 = .ok (.aload_n 0, 1) := by decide +kernel
theorem dX3_growsOf_1 : decode cX3_growsOf 1 = .ok (.getfield 28, 3) := by decide +kernel
theorem dX3_growsOf_4 : decode cX3_growsOf 4 = .ok (.iload_n 1, 1) := by decide +kernel
theorem dX3_growsOf_5 : decode cX3_growsOf 5 = .ok (.iaload, 1) := by decide +kernel
theorem dX3_growsOf_6 : decode cX3_growsOf 6 = .ok (.aload_n 0, 1) := by decide +kernel
theorem dX3_growsOf_7 : decode cX3_growsOf 7 = .ok (.getfield 34, 3) := by decide +kernel
theorem dX3_growsOf_10 : decode cX3_growsOf 10 = .ok (.iload_n 1, 1) := by decide +kernel
theorem dX3_growsOf_11 : decode cX3_growsOf 11 = .ok (.iaload, 1) := by decide +kernel
theorem dX3_growsOf_12 : decode cX3_growsOf 12 = .ok (.aload_n 0, 1) := by decide +kernel
theorem dX3_growsOf_13 : decode cX3_growsOf 13 = .ok (.getfield 37, 3) := by decide +kernel
theorem dX3_growsOf_16 : decode cX3_growsOf 16 = .ok (.iload_n 1, 1) := by decide +kernel
theorem dX3_growsOf_17 : decode cX3_growsOf 17 = .ok (.iaload, 1) := by decide +kernel
theorem dX3_growsOf_18 : decode cX3_growsOf 18 = .ok (.invokestatic 69, 3) := by decide +kernel
theorem dX3_growsOf_21 : decode cX3_growsOf 21 = .ok (.ireturn, 1) := by decide +kernel
theorem dX3_isTrue_0 : decode cX3_isTrue 0 = .ok (.aload_n 0, 1) := by decide +kernel
theorem dX3_isTrue_1 : decode cX3_isTrue 1 = .ok (.getfield 46, 3) := by decide +kernel
theorem dX3_isTrue_4 : decode cX3_isTrue 4 = .ok (.iconst 1, 1) := by decide +kernel
theorem dX3_isTrue_5 : decode cX3_isTrue 5 = .ok (.iload_n 1, 1) := by decide +kernel
theorem dX3_isTrue_6 : decode cX3_isTrue 6 = .ok (.ishl, 1) := by decide +kernel
theorem dX3_isTrue_7 : decode cX3_isTrue 7 = .ok (.iand, 1) := by decide +kernel
theorem dX3_isTrue_8 : decode cX3_isTrue 8 = .ok (.ifCond .eq 7, 3) := by decide +kernel
theorem dX3_isTrue_11 : decode cX3_isTrue 11 = .ok (.iconst 1, 1) := by decide +kernel
theorem dX3_isTrue_12 : decode cX3_isTrue 12 = .ok (.goto 4, 3) := by decide +kernel
theorem dX3_isTrue_15 : decode cX3_isTrue 15 = .ok (.iconst 0, 1) := by decide +kernel
theorem dX3_isTrue_16 : decode cX3_isTrue 16 = .ok (.ireturn, 1) := by decide +kernel
theorem dX3_hasBedFree_0 : decode cX3_hasBedFree 0 = .ok (.aload_n 0, 1) := by decide +kernel
theorem dX3_hasBedFree_1 : decode cX3_hasBedFree 1 = .ok (.getfield 21, 3) := by decide +kernel
theorem dX3_hasBedFree_4 : decode cX3_hasBedFree 4 = .ok (.iload_n 1, 1) := by decide +kernel
theorem dX3_hasBedFree_5 : decode cX3_hasBedFree 5 = .ok (.iaload, 1) := by decide +kernel
theorem dX3_hasBedFree_6 : decode cX3_hasBedFree 6 = .ok (.aload_n 0, 1) := by decide +kernel
theorem dX3_hasBedFree_7 : decode cX3_hasBedFree 7 = .ok (.getfield 9, 3) := by decide +kernel
theorem dX3_hasBedFree_10 : decode cX3_hasBedFree 10 = .ok (.iload_n 1, 1) := by decide +kernel
theorem dX3_hasBedFree_11 : decode cX3_hasBedFree 11 = .ok (.iaload, 1) := by decide +kernel
theorem dX3_hasBedFree_12 : decode cX3_hasBedFree 12 = .ok (.if_icmp .ge 7, 3) := by decide +kernel
theorem dX3_hasBedFree_15 : decode cX3_hasBedFree 15 = .ok (.iconst 1, 1) := by decide +kernel
theorem dX3_hasBedFree_16 : decode cX3_hasBedFree 16 = .ok (.goto 4, 3) := by decide +kernel
theorem dX3_hasBedFree_19 : decode cX3_hasBedFree 19 = .ok (.iconst 0, 1) := by decide +kernel
theorem dX3_hasBedFree_20 : decode cX3_hasBedFree 20 = .ok (.ireturn, 1) := by decide +kernel
theorem dX3_wouldTake_0 : decode cX3_wouldTake 0 = .ok (.aload_n 0, 1) := by decide +kernel
theorem dX3_wouldTake_1 : decode cX3_wouldTake 1 = .ok (.iload_n 1, 1) := by decide +kernel
theorem dX3_wouldTake_2 : decode cX3_wouldTake 2 = .ok (.invokevirtual 72, 3) := by decide +kernel
theorem dX3_wouldTake_5 : decode cX3_wouldTake 5 = .ok (.ifCond .eq 17, 3) := by decide +kernel
theorem dX3_wouldTake_8 : decode cX3_wouldTake 8 = .ok (.aload_n 0, 1) := by decide +kernel
theorem dX3_wouldTake_9 : decode cX3_wouldTake 9 = .ok (.getfield 18, 3) := by decide +kernel
theorem dX3_wouldTake_12 : decode cX3_wouldTake 12 = .ok (.iload_n 1, 1) := by decide +kernel
theorem dX3_wouldTake_13 : decode cX3_wouldTake 13 = .ok (.iaload, 1) := by decide +kernel
theorem dX3_wouldTake_14 : decode cX3_wouldTake 14 = .ok (.iload_n 2, 1) := by decide +kernel
theorem dX3_wouldTake_15 : decode cX3_wouldTake 15 = .ok (.if_icmp .lt 7, 3) := by decide +kernel
theorem dX3_wouldTake_18 : decode cX3_wouldTake 18 = .ok (.iconst 1, 1) := by decide +kernel
theorem dX3_wouldTake_19 : decode cX3_wouldTake 19 = .ok (.goto 4, 3) := by decide +kernel
theorem dX3_wouldTake_22 : decode cX3_wouldTake 22 = .ok (.iconst 0, 1) := by decide +kernel
theorem dX3_wouldTake_23 : decode cX3_wouldTake 23 = .ok (.ireturn, 1) := by decide +kernel
theorem dX3_hostFor_0 : decode cX3_hostFor 0 = .ok (.iconst (-1), 1) := by decide +kernel
theorem dX3_hostFor_1 : decode cX3_hostFor 1 = .ok (.istore_n 2, 1) := by decide +kernel
theorem dX3_hostFor_2 : decode cX3_hostFor 2 = .ok (.aload_n 0, 1) := by decide +kernel
theorem dX3_hostFor_3 : decode cX3_hostFor 3 = .ok (.aload_n 0, 1) := by decide +kernel
theorem dX3_hostFor_4 : decode cX3_hostFor 4 = .ok (.getfield 31, 3) := by decide +kernel
theorem dX3_hostFor_7 : decode cX3_hostFor 7 = .ok (.iload_n 1, 1) := by decide +kernel
theorem dX3_hostFor_8 : decode cX3_hostFor 8 = .ok (.iaload, 1) := by decide +kernel
theorem dX3_hostFor_9 : decode cX3_hostFor 9 = .ok (.invokevirtual 76, 3) := by decide +kernel
theorem dX3_hostFor_12 : decode cX3_hostFor 12 = .ok (.ifCond .eq 5, 3) := by decide +kernel
theorem dX3_hostFor_15 : decode cX3_hostFor 15 = .ok (.iload_n 2, 1) := by decide +kernel
theorem dX3_hostFor_16 : decode cX3_hostFor 16 = .ok (.ireturn, 1) := by decide +kernel
theorem dX3_hostFor_17 : decode cX3_hostFor 17 = .ok (.aload_n 0, 1) := by decide +kernel
theorem dX3_hostFor_18 : decode cX3_hostFor 18 = .ok (.iload_n 1, 1) := by decide +kernel
theorem dX3_hostFor_19 : decode cX3_hostFor 19 = .ok (.invokevirtual 79, 3) := by decide +kernel
theorem dX3_hostFor_22 : decode cX3_hostFor 22 = .ok (.istore_n 3, 1) := by decide +kernel
theorem dX3_hostFor_23 : decode cX3_hostFor 23 = .ok (.iconst 0, 1) := by decide +kernel
theorem dX3_hostFor_24 : decode cX3_hostFor 24 = .ok (.istore 4, 2) := by decide +kernel
theorem dX3_hostFor_26 : decode cX3_hostFor 26 = .ok (.iload 4, 2) := by decide +kernel
theorem dX3_hostFor_28 : decode cX3_hostFor 28 = .ok (.bipush 8, 2) := by decide +kernel
theorem dX3_hostFor_30 : decode cX3_hostFor 30 = .ok (.if_icmp .ge 43, 3) := by decide +kernel
theorem dX3_hostFor_33 : decode cX3_hostFor 33 = .ok (.aload_n 0, 1) := by decide +kernel
theorem dX3_hostFor_34 : decode cX3_hostFor 34 = .ok (.iload 4, 2) := by decide +kernel
theorem dX3_hostFor_36 : decode cX3_hostFor 36 = .ok (.iload_n 3, 1) := by decide +kernel
theorem dX3_hostFor_37 : decode cX3_hostFor 37 = .ok (.invokevirtual 83, 3) := by decide +kernel
theorem dX3_hostFor_40 : decode cX3_hostFor 40 = .ok (.ifCond .eq 27, 3) := by decide +kernel
theorem dX3_hostFor_43 : decode cX3_hostFor 43 = .ok (.iload_n 2, 1) := by decide +kernel
theorem dX3_hostFor_44 : decode cX3_hostFor 44 = .ok (.iconst (-1), 1) := by decide +kernel
theorem dX3_hostFor_45 : decode cX3_hostFor 45 = .ok (.if_icmp .eq 19, 3) := by decide +kernel
theorem dX3_hostFor_48 : decode cX3_hostFor 48 = .ok (.aload_n 0, 1) := by decide +kernel
theorem dX3_hostFor_49 : decode cX3_hostFor 49 = .ok (.getfield 18, 3) := by decide +kernel
theorem dX3_hostFor_52 : decode cX3_hostFor 52 = .ok (.iload 4, 2) := by decide +kernel
theorem dX3_hostFor_54 : decode cX3_hostFor 54 = .ok (.iaload, 1) := by decide +kernel
theorem dX3_hostFor_55 : decode cX3_hostFor 55 = .ok (.aload_n 0, 1) := by decide +kernel
theorem dX3_hostFor_56 : decode cX3_hostFor 56 = .ok (.getfield 18, 3) := by decide +kernel
theorem dX3_hostFor_59 : decode cX3_hostFor 59 = .ok (.iload_n 2, 1) := by decide +kernel
theorem dX3_hostFor_60 : decode cX3_hostFor 60 = .ok (.iaload, 1) := by decide +kernel
theorem dX3_hostFor_61 : decode cX3_hostFor 61 = .ok (.if_icmp .le 6, 3) := by decide +kernel
theorem dX3_hostFor_64 : decode cX3_hostFor 64 = .ok (.iload 4, 2) := by decide +kernel
theorem dX3_hostFor_66 : decode cX3_hostFor 66 = .ok (.istore_n 2, 1) := by decide +kernel
theorem dX3_hostFor_67 : decode cX3_hostFor 67 = .ok (.iinc 4 1, 3) := by decide +kernel
theorem dX3_hostFor_70 : decode cX3_hostFor 70 = .ok (.goto (-44), 3) := by decide +kernel
theorem dX3_hostFor_73 : decode cX3_hostFor 73 = .ok (.iload_n 2, 1) := by decide +kernel
theorem dX3_hostFor_74 : decode cX3_hostFor 74 = .ok (.ireturn, 1) := by decide +kernel
theorem dX3_lodge_0 : decode cX3_lodge 0 = .ok (.aload_n 0, 1) := by decide +kernel
theorem dX3_lodge_1 : decode cX3_lodge 1 = .ok (.getfield 40, 3) := by decide +kernel
theorem dX3_lodge_4 : decode cX3_lodge 4 = .ok (.iload_n 1, 1) := by decide +kernel
theorem dX3_lodge_5 : decode cX3_lodge 5 = .ok (.iaload, 1) := by decide +kernel
theorem dX3_lodge_6 : decode cX3_lodge 6 = .ok (.istore_n 3, 1) := by decide +kernel
theorem dX3_lodge_7 : decode cX3_lodge 7 = .ok (.iload_n 3, 1) := by decide +kernel
theorem dX3_lodge_8 : decode cX3_lodge 8 = .ok (.ifCond .lt 13, 3) := by decide +kernel
theorem dX3_lodge_11 : decode cX3_lodge 11 = .ok (.aload_n 0, 1) := by decide +kernel
theorem dX3_lodge_12 : decode cX3_lodge 12 = .ok (.getfield 21, 3) := by decide +kernel
theorem dX3_lodge_15 : decode cX3_lodge 15 = .ok (.iload_n 3, 1) := by decide +kernel
theorem dX3_lodge_16 : decode cX3_lodge 16 = .ok (.dup2, 1) := by decide +kernel
theorem dX3_lodge_17 : decode cX3_lodge 17 = .ok (.iaload, 1) := by decide +kernel
theorem dX3_lodge_18 : decode cX3_lodge 18 = .ok (.iconst 1, 1) := by decide +kernel
theorem dX3_lodge_19 : decode cX3_lodge 19 = .ok (.isub, 1) := by decide +kernel
theorem dX3_lodge_20 : decode cX3_lodge 20 = .ok (.iastore, 1) := by decide +kernel
theorem dX3_lodge_21 : decode cX3_lodge 21 = .ok (.iload_n 2, 1) := by decide +kernel
theorem dX3_lodge_22 : decode cX3_lodge 22 = .ok (.ifCond .lt 13, 3) := by decide +kernel
theorem dX3_lodge_25 : decode cX3_lodge 25 = .ok (.aload_n 0, 1) := by decide +kernel
theorem dX3_lodge_26 : decode cX3_lodge 26 = .ok (.getfield 21, 3) := by decide +kernel
theorem dX3_lodge_29 : decode cX3_lodge 29 = .ok (.iload_n 2, 1) := by decide +kernel
theorem dX3_lodge_30 : decode cX3_lodge 30 = .ok (.dup2, 1) := by decide +kernel
theorem dX3_lodge_31 : decode cX3_lodge 31 = .ok (.iaload, 1) := by decide +kernel
theorem dX3_lodge_32 : decode cX3_lodge 32 = .ok (.iconst 1, 1) := by decide +kernel
theorem dX3_lodge_33 : decode cX3_lodge 33 = .ok (.iadd, 1) := by decide +kernel
theorem dX3_lodge_34 : decode cX3_lodge 34 = .ok (.iastore, 1) := by decide +kernel
theorem dX3_lodge_35 : decode cX3_lodge 35 = .ok (.aload_n 0, 1) := by decide +kernel
theorem dX3_lodge_36 : decode cX3_lodge 36 = .ok (.getfield 40, 3) := by decide +kernel
theorem dX3_lodge_39 : decode cX3_lodge 39 = .ok (.iload_n 1, 1) := by decide +kernel
theorem dX3_lodge_40 : decode cX3_lodge 40 = .ok (.iload_n 2, 1) := by decide +kernel
theorem dX3_lodge_41 : decode cX3_lodge 41 = .ok (.iastore, 1) := by decide +kernel
theorem dX3_lodge_42 : decode cX3_lodge 42 = .ok (.return_, 1) := by decide +kernel
theorem dX3_improveBy_0 : decode cX3_improveBy 0 = .ok (.aload_n 0, 1) := by decide +kernel
theorem dX3_improveBy_1 : decode cX3_improveBy 1 = .ok (.getfield 34, 3) := by decide +kernel
theorem dX3_improveBy_4 : decode cX3_improveBy 4 = .ok (.iload_n 1, 1) := by decide +kernel
theorem dX3_improveBy_5 : decode cX3_improveBy 5 = .ok (.bipush 99, 2) := by decide +kernel
theorem dX3_improveBy_7 : decode cX3_improveBy 7 = .ok (.aload_n 0, 1) := by decide +kernel
theorem dX3_improveBy_8 : decode cX3_improveBy 8 = .ok (.getfield 34, 3) := by decide +kernel
theorem dX3_improveBy_11 : decode cX3_improveBy 11 = .ok (.iload_n 1, 1) := by decide +kernel
theorem dX3_improveBy_12 : decode cX3_improveBy 12 = .ok (.iaload, 1) := by decide +kernel
theorem dX3_improveBy_13 : decode cX3_improveBy 13 = .ok (.iload_n 2, 1) := by decide +kernel
theorem dX3_improveBy_14 : decode cX3_improveBy 14 = .ok (.iadd, 1) := by decide +kernel
theorem dX3_improveBy_15 : decode cX3_improveBy 15 = .ok (.invokestatic 87, 3) := by decide +kernel
theorem dX3_improveBy_18 : decode cX3_improveBy 18 = .ok (.iastore, 1) := by decide +kernel
theorem dX3_improveBy_19 : decode cX3_improveBy 19 = .ok (.aload_n 0, 1) := by decide +kernel
theorem dX3_improveBy_20 : decode cX3_improveBy 20 = .ok (.getfield 40, 3) := by decide +kernel
theorem dX3_improveBy_23 : decode cX3_improveBy 23 = .ok (.iload_n 1, 1) := by decide +kernel
theorem dX3_improveBy_24 : decode cX3_improveBy 24 = .ok (.iaload, 1) := by decide +kernel
theorem dX3_improveBy_25 : decode cX3_improveBy 25 = .ok (.istore_n 3, 1) := by decide +kernel
theorem dX3_improveBy_26 : decode cX3_improveBy 26 = .ok (.aload_n 0, 1) := by decide +kernel
theorem dX3_improveBy_27 : decode cX3_improveBy 27 = .ok (.iload_n 1, 1) := by decide +kernel
theorem dX3_improveBy_28 : decode cX3_improveBy 28 = .ok (.invokevirtual 79, 3) := by decide +kernel
theorem dX3_improveBy_31 : decode cX3_improveBy 31 = .ok (.istore 4, 2) := by decide +kernel
theorem dX3_improveBy_33 : decode cX3_improveBy 33 = .ok (.iconst 1, 1) := by decide +kernel
theorem dX3_improveBy_34 : decode cX3_improveBy 34 = .ok (.istore 5, 2) := by decide +kernel
theorem dX3_improveBy_36 : decode cX3_improveBy 36 = .ok (.iload 5, 2) := by decide +kernel
theorem dX3_improveBy_38 : decode cX3_improveBy 38 = .ok (.bipush 8, 2) := by decide +kernel
theorem dX3_improveBy_40 : decode cX3_improveBy 40 = .ok (.if_icmp .ge 37, 3) := by decide +kernel
theorem dX3_improveBy_43 : decode cX3_improveBy 43 = .ok (.iload_n 3, 1) := by decide +kernel
theorem dX3_improveBy_44 : decode cX3_improveBy 44 = .ok (.iload 5, 2) := by decide +kernel
theorem dX3_improveBy_46 : decode cX3_improveBy 46 = .ok (.iadd, 1) := by decide +kernel
theorem dX3_improveBy_47 : decode cX3_improveBy 47 = .ok (.bipush 8, 2) := by decide +kernel
theorem dX3_improveBy_49 : decode cX3_improveBy 49 = .ok (.irem, 1) := by decide +kernel
theorem dX3_improveBy_50 : decode cX3_improveBy 50 = .ok (.istore 6, 2) := by decide +kernel
theorem dX3_improveBy_52 : decode cX3_improveBy 52 = .ok (.aload_n 0, 1) := by decide +kernel
theorem dX3_improveBy_53 : decode cX3_improveBy 53 = .ok (.iload 6, 2) := by decide +kernel
theorem dX3_improveBy_55 : decode cX3_improveBy 55 = .ok (.iload 4, 2) := by decide +kernel
theorem dX3_improveBy_57 : decode cX3_improveBy 57 = .ok (.invokevirtual 83, 3) := by decide +kernel
theorem dX3_improveBy_60 : decode cX3_improveBy 60 = .ok (.ifCond .eq 11, 3) := by decide +kernel
theorem dX3_improveBy_63 : decode cX3_improveBy 63 = .ok (.aload_n 0, 1) := by decide +kernel
theorem dX3_improveBy_64 : decode cX3_improveBy 64 = .ok (.iload_n 1, 1) := by decide +kernel
theorem dX3_improveBy_65 : decode cX3_improveBy 65 = .ok (.iload 6, 2) := by decide +kernel
theorem dX3_improveBy_67 : decode cX3_improveBy 67 = .ok (.invokevirtual 92, 3) := by decide +kernel
theorem dX3_improveBy_70 : decode cX3_improveBy 70 = .ok (.return_, 1) := by decide +kernel
theorem dX3_improveBy_71 : decode cX3_improveBy 71 = .ok (.iinc 5 1, 3) := by decide +kernel
theorem dX3_improveBy_74 : decode cX3_improveBy 74 = .ok (.goto (-38), 3) := by decide +kernel
theorem dX3_improveBy_77 : decode cX3_improveBy 77 = .ok (.return_, 1) := by decide +kernel
theorem dX3_becomeTrue_0 : decode cX3_becomeTrue 0 = .ok (.iconst 0, 1) := by decide +kernel
theorem dX3_becomeTrue_1 : decode cX3_becomeTrue 1 = .ok (.istore_n 2, 1) := by decide +kernel
theorem dX3_becomeTrue_2 : decode cX3_becomeTrue 2 = .ok (.iconst 0, 1) := by decide +kernel
theorem dX3_becomeTrue_3 : decode cX3_becomeTrue 3 = .ok (.istore_n 3, 1) := by decide +kernel
theorem dX3_becomeTrue_4 : decode cX3_becomeTrue 4 = .ok (.iload_n 3, 1) := by decide +kernel
theorem dX3_becomeTrue_5 : decode cX3_becomeTrue 5 = .ok (.aload_n 0, 1) := by decide +kernel
theorem dX3_becomeTrue_6 : decode cX3_becomeTrue 6 = .ok (.getfield 24, 3) := by decide +kernel
theorem dX3_becomeTrue_9 : decode cX3_becomeTrue 9 = .ok (.if_icmp .ge 38, 3) := by decide +kernel
theorem dX3_becomeTrue_12 : decode cX3_becomeTrue 12 = .ok (.aload_n 0, 1) := by decide +kernel
theorem dX3_becomeTrue_13 : decode cX3_becomeTrue 13 = .ok (.getfield 31, 3) := by decide +kernel
theorem dX3_becomeTrue_16 : decode cX3_becomeTrue 16 = .ok (.iload_n 3, 1) := by decide +kernel
theorem dX3_becomeTrue_17 : decode cX3_becomeTrue 17 = .ok (.iaload, 1) := by decide +kernel
theorem dX3_becomeTrue_18 : decode cX3_becomeTrue 18 = .ok (.iload_n 1, 1) := by decide +kernel
theorem dX3_becomeTrue_19 : decode cX3_becomeTrue 19 = .ok (.if_icmp .ne 22, 3) := by decide +kernel
theorem dX3_becomeTrue_22 : decode cX3_becomeTrue 22 = .ok (.aload_n 0, 1) := by decide +kernel
theorem dX3_becomeTrue_23 : decode cX3_becomeTrue 23 = .ok (.getfield 40, 3) := by decide +kernel
theorem dX3_becomeTrue_26 : decode cX3_becomeTrue 26 = .ok (.iload_n 3, 1) := by decide +kernel
theorem dX3_becomeTrue_27 : decode cX3_becomeTrue 27 = .ok (.iaload, 1) := by decide +kernel
theorem dX3_becomeTrue_28 : decode cX3_becomeTrue 28 = .ok (.iconst (-1), 1) := by decide +kernel
theorem dX3_becomeTrue_29 : decode cX3_becomeTrue 29 = .ok (.if_icmp .eq 12, 3) := by decide +kernel
theorem dX3_becomeTrue_32 : decode cX3_becomeTrue 32 = .ok (.aload_n 0, 1) := by decide +kernel
theorem dX3_becomeTrue_33 : decode cX3_becomeTrue 33 = .ok (.iload_n 3, 1) := by decide +kernel
theorem dX3_becomeTrue_34 : decode cX3_becomeTrue 34 = .ok (.iconst (-1), 1) := by decide +kernel
theorem dX3_becomeTrue_35 : decode cX3_becomeTrue 35 = .ok (.invokevirtual 92, 3) := by decide +kernel
theorem dX3_becomeTrue_38 : decode cX3_becomeTrue 38 = .ok (.iinc 2 1, 3) := by decide +kernel
theorem dX3_becomeTrue_41 : decode cX3_becomeTrue 41 = .ok (.iinc 3 1, 3) := by decide +kernel
theorem dX3_becomeTrue_44 : decode cX3_becomeTrue 44 = .ok (.goto (-40), 3) := by decide +kernel
theorem dX3_becomeTrue_47 : decode cX3_becomeTrue 47 = .ok (.aload_n 0, 1) := by decide +kernel
theorem dX3_becomeTrue_48 : decode cX3_becomeTrue 48 = .ok (.dup, 1) := by decide +kernel
theorem dX3_becomeTrue_49 : decode cX3_becomeTrue 49 = .ok (.getfield 46, 3) := by decide +kernel
theorem dX3_becomeTrue_52 : decode cX3_becomeTrue 52 = .ok (.iconst 1, 1) := by decide +kernel
theorem dX3_becomeTrue_53 : decode cX3_becomeTrue 53 = .ok (.iload_n 1, 1) := by decide +kernel
theorem dX3_becomeTrue_54 : decode cX3_becomeTrue 54 = .ok (.ishl, 1) := by decide +kernel
theorem dX3_becomeTrue_55 : decode cX3_becomeTrue 55 = .ok (.ior, 1) := by decide +kernel
theorem dX3_becomeTrue_56 : decode cX3_becomeTrue 56 = .ok (.putfield 46, 3) := by decide +kernel
theorem dX3_becomeTrue_59 : decode cX3_becomeTrue 59 = .ok (.iload_n 2, 1) := by decide +kernel
theorem dX3_becomeTrue_60 : decode cX3_becomeTrue 60 = .ok (.ireturn, 1) := by decide +kernel
theorem dX3_passDays_0 : decode cX3_passDays 0 = .ok (.iconst 0, 1) := by decide +kernel
theorem dX3_passDays_1 : decode cX3_passDays 1 = .ok (.istore_n 2, 1) := by decide +kernel
theorem dX3_passDays_2 : decode cX3_passDays 2 = .ok (.iload_n 2, 1) := by decide +kernel
theorem dX3_passDays_3 : decode cX3_passDays 3 = .ok (.iload_n 1, 1) := by decide +kernel
theorem dX3_passDays_4 : decode cX3_passDays 4 = .ok (.if_icmp .ge 13, 3) := by decide +kernel
theorem dX3_passDays_7 : decode cX3_passDays 7 = .ok (.aload_n 0, 1) := by decide +kernel
theorem dX3_passDays_8 : decode cX3_passDays 8 = .ok (.invokevirtual 96, 3) := by decide +kernel
theorem dX3_passDays_11 : decode cX3_passDays 11 = .ok (.iinc 2 1, 3) := by decide +kernel
theorem dX3_passDays_14 : decode cX3_passDays 14 = .ok (.goto (-12), 3) := by decide +kernel
theorem dX3_passDays_17 : decode cX3_passDays 17 = .ok (.return_, 1) := by decide +kernel
theorem dX3_passDay_0 : decode cX3_passDay 0 = .ok (.iconst 0, 1) := by decide +kernel
theorem dX3_passDay_1 : decode cX3_passDay 1 = .ok (.istore_n 1, 1) := by decide +kernel
theorem dX3_passDay_2 : decode cX3_passDay 2 = .ok (.iload_n 1, 1) := by decide +kernel
theorem dX3_passDay_3 : decode cX3_passDay 3 = .ok (.aload_n 0, 1) := by decide +kernel
theorem dX3_passDay_4 : decode cX3_passDay 4 = .ok (.getfield 24, 3) := by decide +kernel
theorem dX3_passDay_7 : decode cX3_passDay 7 = .ok (.if_icmp .ge 44, 3) := by decide +kernel
theorem dX3_passDay_10 : decode cX3_passDay 10 = .ok (.aload_n 0, 1) := by decide +kernel
theorem dX3_passDay_11 : decode cX3_passDay 11 = .ok (.getfield 40, 3) := by decide +kernel
theorem dX3_passDay_14 : decode cX3_passDay 14 = .ok (.iload_n 1, 1) := by decide +kernel
theorem dX3_passDay_15 : decode cX3_passDay 15 = .ok (.iaload, 1) := by decide +kernel
theorem dX3_passDay_16 : decode cX3_passDay 16 = .ok (.iconst (-1), 1) := by decide +kernel
theorem dX3_passDay_17 : decode cX3_passDay 17 = .ok (.if_icmp .eq 8, 3) := by decide +kernel
theorem dX3_passDay_20 : decode cX3_passDay 20 = .ok (.aload_n 0, 1) := by decide +kernel
theorem dX3_passDay_21 : decode cX3_passDay 21 = .ok (.iload_n 1, 1) := by decide +kernel
theorem dX3_passDay_22 : decode cX3_passDay 22 = .ok (.invokevirtual 99, 3) := by decide +kernel
theorem dX3_passDay_25 : decode cX3_passDay 25 = .ok (.aload_n 0, 1) := by decide +kernel
theorem dX3_passDay_26 : decode cX3_passDay 26 = .ok (.getfield 37, 3) := by decide +kernel
theorem dX3_passDay_29 : decode cX3_passDay 29 = .ok (.iload_n 1, 1) := by decide +kernel
theorem dX3_passDay_30 : decode cX3_passDay 30 = .ok (.sipush 999, 3) := by decide +kernel
theorem dX3_passDay_33 : decode cX3_passDay 33 = .ok (.aload_n 0, 1) := by decide +kernel
theorem dX3_passDay_34 : decode cX3_passDay 34 = .ok (.getfield 37, 3) := by decide +kernel
theorem dX3_passDay_37 : decode cX3_passDay 37 = .ok (.iload_n 1, 1) := by decide +kernel
theorem dX3_passDay_38 : decode cX3_passDay 38 = .ok (.iaload, 1) := by decide +kernel
theorem dX3_passDay_39 : decode cX3_passDay 39 = .ok (.iconst 1, 1) := by decide +kernel
theorem dX3_passDay_40 : decode cX3_passDay 40 = .ok (.iadd, 1) := by decide +kernel
theorem dX3_passDay_41 : decode cX3_passDay 41 = .ok (.invokestatic 87, 3) := by decide +kernel
theorem dX3_passDay_44 : decode cX3_passDay 44 = .ok (.iastore, 1) := by decide +kernel
theorem dX3_passDay_45 : decode cX3_passDay 45 = .ok (.iinc 1 1, 3) := by decide +kernel
theorem dX3_passDay_48 : decode cX3_passDay 48 = .ok (.goto (-46), 3) := by decide +kernel
theorem dX3_passDay_51 : decode cX3_passDay 51 = .ok (.iconst 0, 1) := by decide +kernel
theorem dX3_passDay_52 : decode cX3_passDay 52 = .ok (.istore_n 1, 1) := by decide +kernel
theorem dX3_passDay_53 : decode cX3_passDay 53 = .ok (.iload_n 1, 1) := by decide +kernel
theorem dX3_passDay_54 : decode cX3_passDay 54 = .ok (.bipush 8, 2) := by decide +kernel
theorem dX3_passDay_56 : decode cX3_passDay 56 = .ok (.if_icmp .ge 24, 3) := by decide +kernel
theorem dX3_passDay_59 : decode cX3_passDay 59 = .ok (.aload_n 0, 1) := by decide +kernel
theorem dX3_passDay_60 : decode cX3_passDay 60 = .ok (.getfield 21, 3) := by decide +kernel
theorem dX3_passDay_63 : decode cX3_passDay 63 = .ok (.iload_n 1, 1) := by decide +kernel
theorem dX3_passDay_64 : decode cX3_passDay 64 = .ok (.iaload, 1) := by decide +kernel
theorem dX3_passDay_65 : decode cX3_passDay 65 = .ok (.iconst 2, 1) := by decide +kernel
theorem dX3_passDay_66 : decode cX3_passDay 66 = .ok (.if_icmp .lt 8, 3) := by decide +kernel
theorem dX3_passDay_69 : decode cX3_passDay 69 = .ok (.aload_n 0, 1) := by decide +kernel
theorem dX3_passDay_70 : decode cX3_passDay 70 = .ok (.iload_n 1, 1) := by decide +kernel
theorem dX3_passDay_71 : decode cX3_passDay 71 = .ok (.invokevirtual 103, 3) := by decide +kernel
theorem dX3_passDay_74 : decode cX3_passDay 74 = .ok (.iinc 1 1, 3) := by decide +kernel
theorem dX3_passDay_77 : decode cX3_passDay 77 = .ok (.goto (-24), 3) := by decide +kernel
theorem dX3_passDay_80 : decode cX3_passDay 80 = .ok (.iconst 0, 1) := by decide +kernel
theorem dX3_passDay_81 : decode cX3_passDay 81 = .ok (.istore_n 1, 1) := by decide +kernel
theorem dX3_passDay_82 : decode cX3_passDay 82 = .ok (.iload_n 1, 1) := by decide +kernel
theorem dX3_passDay_83 : decode cX3_passDay 83 = .ok (.aload_n 0, 1) := by decide +kernel
theorem dX3_passDay_84 : decode cX3_passDay 84 = .ok (.getfield 24, 3) := by decide +kernel
theorem dX3_passDay_87 : decode cX3_passDay 87 = .ok (.if_icmp .ge 29, 3) := by decide +kernel
theorem dX3_passDay_90 : decode cX3_passDay 90 = .ok (.aload_n 0, 1) := by decide +kernel
theorem dX3_passDay_91 : decode cX3_passDay 91 = .ok (.getfield 40, 3) := by decide +kernel
theorem dX3_passDay_94 : decode cX3_passDay 94 = .ok (.iload_n 1, 1) := by decide +kernel
theorem dX3_passDay_95 : decode cX3_passDay 95 = .ok (.iaload, 1) := by decide +kernel
theorem dX3_passDay_96 : decode cX3_passDay 96 = .ok (.iconst (-1), 1) := by decide +kernel
theorem dX3_passDay_97 : decode cX3_passDay 97 = .ok (.if_icmp .ne 13, 3) := by decide +kernel
theorem dX3_passDay_100 : decode cX3_passDay 100 = .ok (.aload_n 0, 1) := by decide +kernel
theorem dX3_passDay_101 : decode cX3_passDay 101 = .ok (.iload_n 1, 1) := by decide +kernel
theorem dX3_passDay_102 : decode cX3_passDay 102 = .ok (.aload_n 0, 1) := by decide +kernel
theorem dX3_passDay_103 : decode cX3_passDay 103 = .ok (.iload_n 1, 1) := by decide +kernel
theorem dX3_passDay_104 : decode cX3_passDay 104 = .ok (.invokevirtual 106, 3) := by decide +kernel
theorem dX3_passDay_107 : decode cX3_passDay 107 = .ok (.invokevirtual 92, 3) := by decide +kernel
theorem dX3_passDay_110 : decode cX3_passDay 110 = .ok (.iinc 1 1, 3) := by decide +kernel
theorem dX3_passDay_113 : decode cX3_passDay 113 = .ok (.goto (-31), 3) := by decide +kernel
theorem dX3_passDay_116 : decode cX3_passDay 116 = .ok (.aload_n 0, 1) := by decide +kernel
theorem dX3_passDay_117 : decode cX3_passDay 117 = .ok (.dup, 1) := by decide +kernel
theorem dX3_passDay_118 : decode cX3_passDay 118 = .ok (.getfield 43, 3) := by decide +kernel
theorem dX3_passDay_121 : decode cX3_passDay 121 = .ok (.iconst 1, 1) := by decide +kernel
theorem dX3_passDay_122 : decode cX3_passDay 122 = .ok (.iadd, 1) := by decide +kernel
theorem dX3_passDay_123 : decode cX3_passDay 123 = .ok (.putfield 43, 3) := by decide +kernel
theorem dX3_passDay_126 : decode cX3_passDay 126 = .ok (.return_, 1) := by decide +kernel
theorem dX3_feedOne_0 : decode cX3_feedOne 0 = .ok (.aload_n 0, 1) := by decide +kernel
theorem dX3_feedOne_1 : decode cX3_feedOne 1 = .ok (.getfield 40, 3) := by decide +kernel
theorem dX3_feedOne_4 : decode cX3_feedOne 4 = .ok (.iload_n 1, 1) := by decide +kernel
theorem dX3_feedOne_5 : decode cX3_feedOne 5 = .ok (.iaload, 1) := by decide +kernel
theorem dX3_feedOne_6 : decode cX3_feedOne 6 = .ok (.istore_n 2, 1) := by decide +kernel
theorem dX3_feedOne_7 : decode cX3_feedOne 7 = .ok (.aload_n 0, 1) := by decide +kernel
theorem dX3_feedOne_8 : decode cX3_feedOne 8 = .ok (.iload_n 1, 1) := by decide +kernel
theorem dX3_feedOne_9 : decode cX3_feedOne 9 = .ok (.invokevirtual 109, 3) := by decide +kernel
theorem dX3_feedOne_12 : decode cX3_feedOne 12 = .ok (.istore_n 3, 1) := by decide +kernel
theorem dX3_feedOne_13 : decode cX3_feedOne 13 = .ok (.aload_n 0, 1) := by decide +kernel
theorem dX3_feedOne_14 : decode cX3_feedOne 14 = .ok (.getfield 15, 3) := by decide +kernel
theorem dX3_feedOne_17 : decode cX3_feedOne 17 = .ok (.iload_n 2, 1) := by decide +kernel
theorem dX3_feedOne_18 : decode cX3_feedOne 18 = .ok (.iaload, 1) := by decide +kernel
theorem dX3_feedOne_19 : decode cX3_feedOne 19 = .ok (.iload_n 3, 1) := by decide +kernel
theorem dX3_feedOne_20 : decode cX3_feedOne 20 = .ok (.if_icmp .ge 17, 3) := by decide +kernel
theorem dX3_feedOne_23 : decode cX3_feedOne 23 = .ok (.aload_n 0, 1) := by decide +kernel
theorem dX3_feedOne_24 : decode cX3_feedOne 24 = .ok (.getfield 15, 3) := by decide +kernel
theorem dX3_feedOne_27 : decode cX3_feedOne 27 = .ok (.iload_n 2, 1) := by decide +kernel
theorem dX3_feedOne_28 : decode cX3_feedOne 28 = .ok (.iconst 0, 1) := by decide +kernel
theorem dX3_feedOne_29 : decode cX3_feedOne 29 = .ok (.iastore, 1) := by decide +kernel
theorem dX3_feedOne_30 : decode cX3_feedOne 30 = .ok (.aload_n 0, 1) := by decide +kernel
theorem dX3_feedOne_31 : decode cX3_feedOne 31 = .ok (.iload_n 1, 1) := by decide +kernel
theorem dX3_feedOne_32 : decode cX3_feedOne 32 = .ok (.iconst (-1), 1) := by decide +kernel
theorem dX3_feedOne_33 : decode cX3_feedOne 33 = .ok (.invokevirtual 92, 3) := by decide +kernel
theorem dX3_feedOne_36 : decode cX3_feedOne 36 = .ok (.return_, 1) := by decide +kernel
theorem dX3_feedOne_37 : decode cX3_feedOne 37 = .ok (.aload_n 0, 1) := by decide +kernel
theorem dX3_feedOne_38 : decode cX3_feedOne 38 = .ok (.getfield 15, 3) := by decide +kernel
theorem dX3_feedOne_41 : decode cX3_feedOne 41 = .ok (.iload_n 2, 1) := by decide +kernel
theorem dX3_feedOne_42 : decode cX3_feedOne 42 = .ok (.dup2, 1) := by decide +kernel
theorem dX3_feedOne_43 : decode cX3_feedOne 43 = .ok (.iaload, 1) := by decide +kernel
theorem dX3_feedOne_44 : decode cX3_feedOne 44 = .ok (.iload_n 3, 1) := by decide +kernel
theorem dX3_feedOne_45 : decode cX3_feedOne 45 = .ok (.isub, 1) := by decide +kernel
theorem dX3_feedOne_46 : decode cX3_feedOne 46 = .ok (.iastore, 1) := by decide +kernel
theorem dX3_feedOne_47 : decode cX3_feedOne 47 = .ok (.aload_n 0, 1) := by decide +kernel
theorem dX3_feedOne_48 : decode cX3_feedOne 48 = .ok (.getfield 34, 3) := by decide +kernel
theorem dX3_feedOne_51 : decode cX3_feedOne 51 = .ok (.iload_n 1, 1) := by decide +kernel
theorem dX3_feedOne_52 : decode cX3_feedOne 52 = .ok (.bipush 99, 2) := by decide +kernel
theorem dX3_feedOne_54 : decode cX3_feedOne 54 = .ok (.aload_n 0, 1) := by decide +kernel
theorem dX3_feedOne_55 : decode cX3_feedOne 55 = .ok (.getfield 34, 3) := by decide +kernel
theorem dX3_feedOne_58 : decode cX3_feedOne 58 = .ok (.iload_n 1, 1) := by decide +kernel
theorem dX3_feedOne_59 : decode cX3_feedOne 59 = .ok (.iaload, 1) := by decide +kernel
theorem dX3_feedOne_60 : decode cX3_feedOne 60 = .ok (.aload_n 0, 1) := by decide +kernel
theorem dX3_feedOne_61 : decode cX3_feedOne 61 = .ok (.iload_n 1, 1) := by decide +kernel
theorem dX3_feedOne_62 : decode cX3_feedOne 62 = .ok (.invokevirtual 112, 3) := by decide +kernel
theorem dX3_feedOne_65 : decode cX3_feedOne 65 = .ok (.iadd, 1) := by decide +kernel
theorem dX3_feedOne_66 : decode cX3_feedOne 66 = .ok (.invokestatic 87, 3) := by decide +kernel
theorem dX3_feedOne_69 : decode cX3_feedOne 69 = .ok (.iastore, 1) := by decide +kernel
theorem dX3_feedOne_70 : decode cX3_feedOne 70 = .ok (.return_, 1) := by decide +kernel
theorem dX3_makeThird_0 : decode cX3_makeThird 0 = .ok (.aload_n 0, 1) := by decide +kernel
theorem dX3_makeThird_1 : decode cX3_makeThird 1 = .ok (.iload_n 1, 1) := by decide +kernel
theorem dX3_makeThird_2 : decode cX3_makeThird 2 = .ok (.invokevirtual 115, 3) := by decide +kernel
theorem dX3_makeThird_5 : decode cX3_makeThird 5 = .ok (.istore_n 2, 1) := by decide +kernel
theorem dX3_makeThird_6 : decode cX3_makeThird 6 = .ok (.iload_n 2, 1) := by decide +kernel
theorem dX3_makeThird_7 : decode cX3_makeThird 7 = .ok (.ifCond .lt 18, 3) := by decide +kernel
theorem dX3_makeThird_10 : decode cX3_makeThird 10 = .ok (.aload_n 0, 1) := by decide +kernel
theorem dX3_makeThird_11 : decode cX3_makeThird 11 = .ok (.invokevirtual 55, 3) := by decide +kernel
theorem dX3_makeThird_14 : decode cX3_makeThird 14 = .ok (.ifCond .ne 11, 3) := by decide +kernel
theorem dX3_makeThird_17 : decode cX3_makeThird 17 = .ok (.aload_n 0, 1) := by decide +kernel
theorem dX3_makeThird_18 : decode cX3_makeThird 18 = .ok (.iload_n 2, 1) := by decide +kernel
theorem dX3_makeThird_19 : decode cX3_makeThird 19 = .ok (.invokevirtual 118, 3) := by decide +kernel
theorem dX3_makeThird_22 : decode cX3_makeThird 22 = .ok (.ifCond .eq 4, 3) := by decide +kernel
theorem dX3_makeThird_25 : decode cX3_makeThird 25 = .ok (.return_, 1) := by decide +kernel
theorem dX3_makeThird_26 : decode cX3_makeThird 26 = .ok (.iconst 0, 1) := by decide +kernel
theorem dX3_makeThird_27 : decode cX3_makeThird 27 = .ok (.istore_n 3, 1) := by decide +kernel
theorem dX3_makeThird_28 : decode cX3_makeThird 28 = .ok (.iconst 0, 1) := by decide +kernel
theorem dX3_makeThird_29 : decode cX3_makeThird 29 = .ok (.istore 4, 2) := by decide +kernel
theorem dX3_makeThird_31 : decode cX3_makeThird 31 = .ok (.iconst 0, 1) := by decide +kernel
theorem dX3_makeThird_32 : decode cX3_makeThird 32 = .ok (.istore 5, 2) := by decide +kernel
theorem dX3_makeThird_34 : decode cX3_makeThird 34 = .ok (.iload 5, 2) := by decide +kernel
theorem dX3_makeThird_36 : decode cX3_makeThird 36 = .ok (.aload_n 0, 1) := by decide +kernel
theorem dX3_makeThird_37 : decode cX3_makeThird 37 = .ok (.getfield 24, 3) := by decide +kernel
theorem dX3_makeThird_40 : decode cX3_makeThird 40 = .ok (.if_icmp .ge 50, 3) := by decide +kernel
theorem dX3_makeThird_43 : decode cX3_makeThird 43 = .ok (.iload 4, 2) := by decide +kernel
theorem dX3_makeThird_45 : decode cX3_makeThird 45 = .ok (.iconst 2, 1) := by decide +kernel
theorem dX3_makeThird_46 : decode cX3_makeThird 46 = .ok (.if_icmp .ge 44, 3) := by decide +kernel
theorem dX3_makeThird_49 : decode cX3_makeThird 49 = .ok (.aload_n 0, 1) := by decide +kernel
theorem dX3_makeThird_50 : decode cX3_makeThird 50 = .ok (.getfield 40, 3) := by decide +kernel
theorem dX3_makeThird_53 : decode cX3_makeThird 53 = .ok (.iload 5, 2) := by decide +kernel
theorem dX3_makeThird_55 : decode cX3_makeThird 55 = .ok (.iaload, 1) := by decide +kernel
theorem dX3_makeThird_56 : decode cX3_makeThird 56 = .ok (.iload_n 1, 1) := by decide +kernel
theorem dX3_makeThird_57 : decode cX3_makeThird 57 = .ok (.if_icmp .ne 27, 3) := by decide +kernel
theorem dX3_makeThird_60 : decode cX3_makeThird 60 = .ok (.aload_n 0, 1) := by decide +kernel
theorem dX3_makeThird_61 : decode cX3_makeThird 61 = .ok (.getfield 31, 3) := by decide +kernel
theorem dX3_makeThird_64 : decode cX3_makeThird 64 = .ok (.iload 5, 2) := by decide +kernel
theorem dX3_makeThird_66 : decode cX3_makeThird 66 = .ok (.iaload, 1) := by decide +kernel
theorem dX3_makeThird_67 : decode cX3_makeThird 67 = .ok (.iload_n 2, 1) := by decide +kernel
theorem dX3_makeThird_68 : decode cX3_makeThird 68 = .ok (.if_icmp .ne 16, 3) := by decide +kernel
theorem dX3_makeThird_71 : decode cX3_makeThird 71 = .ok (.iload_n 3, 1) := by decide +kernel
theorem dX3_makeThird_72 : decode cX3_makeThird 72 = .ok (.aload_n 0, 1) := by decide +kernel
theorem dX3_makeThird_73 : decode cX3_makeThird 73 = .ok (.getfield 34, 3) := by decide +kernel
theorem dX3_makeThird_76 : decode cX3_makeThird 76 = .ok (.iload 5, 2) := by decide +kernel
theorem dX3_makeThird_78 : decode cX3_makeThird 78 = .ok (.iaload, 1) := by decide +kernel
theorem dX3_makeThird_79 : decode cX3_makeThird 79 = .ok (.iadd, 1) := by decide +kernel
theorem dX3_makeThird_80 : decode cX3_makeThird 80 = .ok (.istore_n 3, 1) := by decide +kernel
theorem dX3_makeThird_81 : decode cX3_makeThird 81 = .ok (.iinc 4 1, 3) := by decide +kernel
theorem dX3_makeThird_84 : decode cX3_makeThird 84 = .ok (.iinc 5 1, 3) := by decide +kernel
theorem dX3_makeThird_87 : decode cX3_makeThird 87 = .ok (.goto (-53), 3) := by decide +kernel
theorem dX3_makeThird_90 : decode cX3_makeThird 90 = .ok (.aload_n 0, 1) := by decide +kernel
theorem dX3_makeThird_91 : decode cX3_makeThird 91 = .ok (.iconst 0, 1) := by decide +kernel
theorem dX3_makeThird_92 : decode cX3_makeThird 92 = .ok (.iload_n 2, 1) := by decide +kernel
theorem dX3_makeThird_93 : decode cX3_makeThird 93 = .ok (.iload_n 3, 1) := by decide +kernel
theorem dX3_makeThird_94 : decode cX3_makeThird 94 = .ok (.iconst 2, 1) := by decide +kernel
theorem dX3_makeThird_95 : decode cX3_makeThird 95 = .ok (.idiv, 1) := by decide +kernel
theorem dX3_makeThird_96 : decode cX3_makeThird 96 = .ok (.invokevirtual 121, 3) := by decide +kernel
theorem dX3_makeThird_99 : decode cX3_makeThird 99 = .ok (.pop, 1) := by decide +kernel
theorem dX3_makeThird_100 : decode cX3_makeThird 100 = .ok (.return_, 1) := by decide +kernel
theorem dX3_pairedEvent_0 : decode cX3_pairedEvent 0 = .ok (.iconst 0, 1) := by decide +kernel
theorem dX3_pairedEvent_1 : decode cX3_pairedEvent 1 = .ok (.istore_n 2, 1) := by decide +kernel
theorem dX3_pairedEvent_2 : decode cX3_pairedEvent 2 = .ok (.iconst 0, 1) := by decide +kernel
theorem dX3_pairedEvent_3 : decode cX3_pairedEvent 3 = .ok (.istore_n 3, 1) := by decide +kernel
theorem dX3_pairedEvent_4 : decode cX3_pairedEvent 4 = .ok (.iconst 0, 1) := by decide +kernel
theorem dX3_pairedEvent_5 : decode cX3_pairedEvent 5 = .ok (.istore 4, 2) := by decide +kernel
theorem dX3_pairedEvent_7 : decode cX3_pairedEvent 7 = .ok (.iload 4, 2) := by decide +kernel
theorem dX3_pairedEvent_9 : decode cX3_pairedEvent 9 = .ok (.aload_n 0, 1) := by decide +kernel
theorem dX3_pairedEvent_10 : decode cX3_pairedEvent 10 = .ok (.getfield 24, 3) := by decide +kernel
theorem dX3_pairedEvent_13 : decode cX3_pairedEvent 13 = .ok (.if_icmp .ge 43, 3) := by decide +kernel
theorem dX3_pairedEvent_16 : decode cX3_pairedEvent 16 = .ok (.aload_n 0, 1) := by decide +kernel
theorem dX3_pairedEvent_17 : decode cX3_pairedEvent 17 = .ok (.getfield 40, 3) := by decide +kernel
theorem dX3_pairedEvent_20 : decode cX3_pairedEvent 20 = .ok (.iload 4, 2) := by decide +kernel
theorem dX3_pairedEvent_22 : decode cX3_pairedEvent 22 = .ok (.iaload, 1) := by decide +kernel
theorem dX3_pairedEvent_23 : decode cX3_pairedEvent 23 = .ok (.iload_n 1, 1) := by decide +kernel
theorem dX3_pairedEvent_24 : decode cX3_pairedEvent 24 = .ok (.if_icmp .ne 26, 3) := by decide +kernel
theorem dX3_pairedEvent_27 : decode cX3_pairedEvent 27 = .ok (.iconst 1, 1) := by decide +kernel
theorem dX3_pairedEvent_28 : decode cX3_pairedEvent 28 = .ok (.aload_n 0, 1) := by decide +kernel
theorem dX3_pairedEvent_29 : decode cX3_pairedEvent 29 = .ok (.getfield 31, 3) := by decide +kernel
theorem dX3_pairedEvent_32 : decode cX3_pairedEvent 32 = .ok (.iload 4, 2) := by decide +kernel
theorem dX3_pairedEvent_34 : decode cX3_pairedEvent 34 = .ok (.iaload, 1) := by decide +kernel
theorem dX3_pairedEvent_35 : decode cX3_pairedEvent 35 = .ok (.ishl, 1) := by decide +kernel
theorem dX3_pairedEvent_36 : decode cX3_pairedEvent 36 = .ok (.istore 5, 2) := by decide +kernel
theorem dX3_pairedEvent_38 : decode cX3_pairedEvent 38 = .ok (.iload_n 3, 1) := by decide +kernel
theorem dX3_pairedEvent_39 : decode cX3_pairedEvent 39 = .ok (.iload_n 2, 1) := by decide +kernel
theorem dX3_pairedEvent_40 : decode cX3_pairedEvent 40 = .ok (.iload 5, 2) := by decide +kernel
theorem dX3_pairedEvent_42 : decode cX3_pairedEvent 42 = .ok (.iand, 1) := by decide +kernel
theorem dX3_pairedEvent_43 : decode cX3_pairedEvent 43 = .ok (.ior, 1) := by decide +kernel
theorem dX3_pairedEvent_44 : decode cX3_pairedEvent 44 = .ok (.istore_n 3, 1) := by decide +kernel
theorem dX3_pairedEvent_45 : decode cX3_pairedEvent 45 = .ok (.iload_n 2, 1) := by decide +kernel
theorem dX3_pairedEvent_46 : decode cX3_pairedEvent 46 = .ok (.iload 5, 2) := by decide +kernel
theorem dX3_pairedEvent_48 : decode cX3_pairedEvent 48 = .ok (.ior, 1) := by decide +kernel
theorem dX3_pairedEvent_49 : decode cX3_pairedEvent 49 = .ok (.istore_n 2, 1) := by decide +kernel
theorem dX3_pairedEvent_50 : decode cX3_pairedEvent 50 = .ok (.iinc 4 1, 3) := by decide +kernel
theorem dX3_pairedEvent_53 : decode cX3_pairedEvent 53 = .ok (.goto (-46), 3) := by decide +kernel
theorem dX3_pairedEvent_56 : decode cX3_pairedEvent 56 = .ok (.iconst 0, 1) := by decide +kernel
theorem dX3_pairedEvent_57 : decode cX3_pairedEvent 57 = .ok (.istore 4, 2) := by decide +kernel
theorem dX3_pairedEvent_59 : decode cX3_pairedEvent 59 = .ok (.iload 4, 2) := by decide +kernel
theorem dX3_pairedEvent_61 : decode cX3_pairedEvent 61 = .ok (.bipush 16, 2) := by decide +kernel
theorem dX3_pairedEvent_63 : decode cX3_pairedEvent 63 = .ok (.if_icmp .ge 21, 3) := by decide +kernel
theorem dX3_pairedEvent_66 : decode cX3_pairedEvent 66 = .ok (.iload_n 3, 1) := by decide +kernel
theorem dX3_pairedEvent_67 : decode cX3_pairedEvent 67 = .ok (.iconst 1, 1) := by decide +kernel
theorem dX3_pairedEvent_68 : decode cX3_pairedEvent 68 = .ok (.iload 4, 2) := by decide +kernel
theorem dX3_pairedEvent_70 : decode cX3_pairedEvent 70 = .ok (.ishl, 1) := by decide +kernel
theorem dX3_pairedEvent_71 : decode cX3_pairedEvent 71 = .ok (.iand, 1) := by decide +kernel
theorem dX3_pairedEvent_72 : decode cX3_pairedEvent 72 = .ok (.ifCond .eq 6, 3) := by decide +kernel
theorem dX3_pairedEvent_75 : decode cX3_pairedEvent 75 = .ok (.iload 4, 2) := by decide +kernel
theorem dX3_pairedEvent_77 : decode cX3_pairedEvent 77 = .ok (.ireturn, 1) := by decide +kernel
theorem dX3_pairedEvent_78 : decode cX3_pairedEvent 78 = .ok (.iinc 4 1, 3) := by decide +kernel
theorem dX3_pairedEvent_81 : decode cX3_pairedEvent 81 = .ok (.goto (-22), 3) := by decide +kernel
theorem dX3_pairedEvent_84 : decode cX3_pairedEvent 84 = .ok (.iconst (-1), 1) := by decide +kernel
theorem dX3_pairedEvent_85 : decode cX3_pairedEvent 85 = .ok (.ireturn, 1) := by decide +kernel
theorem dX3_isOnRoad_0 : decode cX3_isOnRoad 0 = .ok (.iconst 0, 1) := by decide +kernel
theorem dX3_isOnRoad_1 : decode cX3_isOnRoad 1 = .ok (.istore_n 2, 1) := by decide +kernel
theorem dX3_isOnRoad_2 : decode cX3_isOnRoad 2 = .ok (.iload_n 2, 1) := by decide +kernel
theorem dX3_isOnRoad_3 : decode cX3_isOnRoad 3 = .ok (.aload_n 0, 1) := by decide +kernel
theorem dX3_isOnRoad_4 : decode cX3_isOnRoad 4 = .ok (.getfield 24, 3) := by decide +kernel
theorem dX3_isOnRoad_7 : decode cX3_isOnRoad 7 = .ok (.if_icmp .ge 31, 3) := by decide +kernel
theorem dX3_isOnRoad_10 : decode cX3_isOnRoad 10 = .ok (.aload_n 0, 1) := by decide +kernel
theorem dX3_isOnRoad_11 : decode cX3_isOnRoad 11 = .ok (.getfield 40, 3) := by decide +kernel
theorem dX3_isOnRoad_14 : decode cX3_isOnRoad 14 = .ok (.iload_n 2, 1) := by decide +kernel
theorem dX3_isOnRoad_15 : decode cX3_isOnRoad 15 = .ok (.iaload, 1) := by decide +kernel
theorem dX3_isOnRoad_16 : decode cX3_isOnRoad 16 = .ok (.iconst (-1), 1) := by decide +kernel
theorem dX3_isOnRoad_17 : decode cX3_isOnRoad 17 = .ok (.if_icmp .ne 15, 3) := by decide +kernel
theorem dX3_isOnRoad_20 : decode cX3_isOnRoad 20 = .ok (.aload_n 0, 1) := by decide +kernel
theorem dX3_isOnRoad_21 : decode cX3_isOnRoad 21 = .ok (.getfield 31, 3) := by decide +kernel
theorem dX3_isOnRoad_24 : decode cX3_isOnRoad 24 = .ok (.iload_n 2, 1) := by decide +kernel
theorem dX3_isOnRoad_25 : decode cX3_isOnRoad 25 = .ok (.iaload, 1) := by decide +kernel
theorem dX3_isOnRoad_26 : decode cX3_isOnRoad 26 = .ok (.iload_n 1, 1) := by decide +kernel
theorem dX3_isOnRoad_27 : decode cX3_isOnRoad 27 = .ok (.if_icmp .ne 5, 3) := by decide +kernel
theorem dX3_isOnRoad_30 : decode cX3_isOnRoad 30 = .ok (.iconst 1, 1) := by decide +kernel
theorem dX3_isOnRoad_31 : decode cX3_isOnRoad 31 = .ok (.ireturn, 1) := by decide +kernel
theorem dX3_isOnRoad_32 : decode cX3_isOnRoad 32 = .ok (.iinc 2 1, 3) := by decide +kernel
theorem dX3_isOnRoad_35 : decode cX3_isOnRoad 35 = .ok (.goto (-33), 3) := by decide +kernel
theorem dX3_isOnRoad_38 : decode cX3_isOnRoad 38 = .ok (.iconst 0, 1) := by decide +kernel
theorem dX3_isOnRoad_39 : decode cX3_isOnRoad 39 = .ok (.ireturn, 1) := by decide +kernel
theorem dX3_thoseIn_0 : decode cX3_thoseIn 0 = .ok (.iconst 0, 1) := by decide +kernel
theorem dX3_thoseIn_1 : decode cX3_thoseIn 1 = .ok (.istore_n 2, 1) := by decide +kernel
theorem dX3_thoseIn_2 : decode cX3_thoseIn 2 = .ok (.iconst 0, 1) := by decide +kernel
theorem dX3_thoseIn_3 : decode cX3_thoseIn 3 = .ok (.istore_n 3, 1) := by decide +kernel
theorem dX3_thoseIn_4 : decode cX3_thoseIn 4 = .ok (.iload_n 3, 1) := by decide +kernel
theorem dX3_thoseIn_5 : decode cX3_thoseIn 5 = .ok (.aload_n 0, 1) := by decide +kernel
theorem dX3_thoseIn_6 : decode cX3_thoseIn 6 = .ok (.getfield 24, 3) := by decide +kernel
theorem dX3_thoseIn_9 : decode cX3_thoseIn 9 = .ok (.if_icmp .ge 25, 3) := by decide +kernel
theorem dX3_thoseIn_12 : decode cX3_thoseIn 12 = .ok (.aload_n 0, 1) := by decide +kernel
theorem dX3_thoseIn_13 : decode cX3_thoseIn 13 = .ok (.getfield 40, 3) := by decide +kernel
theorem dX3_thoseIn_16 : decode cX3_thoseIn 16 = .ok (.iload_n 3, 1) := by decide +kernel
theorem dX3_thoseIn_17 : decode cX3_thoseIn 17 = .ok (.iaload, 1) := by decide +kernel
theorem dX3_thoseIn_18 : decode cX3_thoseIn 18 = .ok (.iload_n 1, 1) := by decide +kernel
theorem dX3_thoseIn_19 : decode cX3_thoseIn 19 = .ok (.if_icmp .ne 9, 3) := by decide +kernel
theorem dX3_thoseIn_22 : decode cX3_thoseIn 22 = .ok (.iload_n 2, 1) := by decide +kernel
theorem dX3_thoseIn_23 : decode cX3_thoseIn 23 = .ok (.iconst 1, 1) := by decide +kernel
theorem dX3_thoseIn_24 : decode cX3_thoseIn 24 = .ok (.iload_n 3, 1) := by decide +kernel
theorem dX3_thoseIn_25 : decode cX3_thoseIn 25 = .ok (.ishl, 1) := by decide +kernel
theorem dX3_thoseIn_26 : decode cX3_thoseIn 26 = .ok (.ior, 1) := by decide +kernel
theorem dX3_thoseIn_27 : decode cX3_thoseIn 27 = .ok (.istore_n 2, 1) := by decide +kernel
theorem dX3_thoseIn_28 : decode cX3_thoseIn 28 = .ok (.iinc 3 1, 3) := by decide +kernel
theorem dX3_thoseIn_31 : decode cX3_thoseIn 31 = .ok (.goto (-27), 3) := by decide +kernel
theorem dX3_thoseIn_34 : decode cX3_thoseIn 34 = .ok (.iload_n 2, 1) := by decide +kernel
theorem dX3_thoseIn_35 : decode cX3_thoseIn 35 = .ok (.ireturn, 1) := by decide +kernel
theorem dX3_eventsIn_0 : decode cX3_eventsIn 0 = .ok (.iconst 0, 1) := by decide +kernel
theorem dX3_eventsIn_1 : decode cX3_eventsIn 1 = .ok (.istore_n 2, 1) := by decide +kernel
theorem dX3_eventsIn_2 : decode cX3_eventsIn 2 = .ok (.iconst 0, 1) := by decide +kernel
theorem dX3_eventsIn_3 : decode cX3_eventsIn 3 = .ok (.istore_n 3, 1) := by decide +kernel
theorem dX3_eventsIn_4 : decode cX3_eventsIn 4 = .ok (.iload_n 3, 1) := by decide +kernel
theorem dX3_eventsIn_5 : decode cX3_eventsIn 5 = .ok (.aload_n 0, 1) := by decide +kernel
theorem dX3_eventsIn_6 : decode cX3_eventsIn 6 = .ok (.getfield 24, 3) := by decide +kernel
theorem dX3_eventsIn_9 : decode cX3_eventsIn 9 = .ok (.if_icmp .ge 30, 3) := by decide +kernel
theorem dX3_eventsIn_12 : decode cX3_eventsIn 12 = .ok (.aload_n 0, 1) := by decide +kernel
theorem dX3_eventsIn_13 : decode cX3_eventsIn 13 = .ok (.getfield 40, 3) := by decide +kernel
theorem dX3_eventsIn_16 : decode cX3_eventsIn 16 = .ok (.iload_n 3, 1) := by decide +kernel
theorem dX3_eventsIn_17 : decode cX3_eventsIn 17 = .ok (.iaload, 1) := by decide +kernel
theorem dX3_eventsIn_18 : decode cX3_eventsIn 18 = .ok (.iload_n 1, 1) := by decide +kernel
theorem dX3_eventsIn_19 : decode cX3_eventsIn 19 = .ok (.if_icmp .ne 14, 3) := by decide +kernel
theorem dX3_eventsIn_22 : decode cX3_eventsIn 22 = .ok (.iload_n 2, 1) := by decide +kernel
theorem dX3_eventsIn_23 : decode cX3_eventsIn 23 = .ok (.iconst 1, 1) := by decide +kernel
theorem dX3_eventsIn_24 : decode cX3_eventsIn 24 = .ok (.aload_n 0, 1) := by decide +kernel
theorem dX3_eventsIn_25 : decode cX3_eventsIn 25 = .ok (.getfield 31, 3) := by decide +kernel
theorem dX3_eventsIn_28 : decode cX3_eventsIn 28 = .ok (.iload_n 3, 1) := by decide +kernel
theorem dX3_eventsIn_29 : decode cX3_eventsIn 29 = .ok (.iaload, 1) := by decide +kernel
theorem dX3_eventsIn_30 : decode cX3_eventsIn 30 = .ok (.ishl, 1) := by decide +kernel
theorem dX3_eventsIn_31 : decode cX3_eventsIn 31 = .ok (.ior, 1) := by decide +kernel
theorem dX3_eventsIn_32 : decode cX3_eventsIn 32 = .ok (.istore_n 2, 1) := by decide +kernel
theorem dX3_eventsIn_33 : decode cX3_eventsIn 33 = .ok (.iinc 3 1, 3) := by decide +kernel
theorem dX3_eventsIn_36 : decode cX3_eventsIn 36 = .ok (.goto (-32), 3) := by decide +kernel
theorem dX3_eventsIn_39 : decode cX3_eventsIn 39 = .ok (.iload_n 2, 1) := by decide +kernel
theorem dX3_eventsIn_40 : decode cX3_eventsIn 40 = .ok (.ireturn, 1) := by decide +kernel
theorem dX3_eatenIn_0 : decode cX3_eatenIn 0 = .ok (.iconst 0, 1) := by decide +kernel
theorem dX3_eatenIn_1 : decode cX3_eatenIn 1 = .ok (.istore_n 2, 1) := by decide +kernel
theorem dX3_eatenIn_2 : decode cX3_eatenIn 2 = .ok (.iconst 0, 1) := by decide +kernel
theorem dX3_eatenIn_3 : decode cX3_eatenIn 3 = .ok (.istore_n 3, 1) := by decide +kernel
theorem dX3_eatenIn_4 : decode cX3_eatenIn 4 = .ok (.iload_n 3, 1) := by decide +kernel
theorem dX3_eatenIn_5 : decode cX3_eatenIn 5 = .ok (.aload_n 0, 1) := by decide +kernel
theorem dX3_eatenIn_6 : decode cX3_eatenIn 6 = .ok (.getfield 24, 3) := by decide +kernel
theorem dX3_eatenIn_9 : decode cX3_eatenIn 9 = .ok (.if_icmp .ge 27, 3) := by decide +kernel
theorem dX3_eatenIn_12 : decode cX3_eatenIn 12 = .ok (.aload_n 0, 1) := by decide +kernel
theorem dX3_eatenIn_13 : decode cX3_eatenIn 13 = .ok (.getfield 40, 3) := by decide +kernel
theorem dX3_eatenIn_16 : decode cX3_eatenIn 16 = .ok (.iload_n 3, 1) := by decide +kernel
theorem dX3_eatenIn_17 : decode cX3_eatenIn 17 = .ok (.iaload, 1) := by decide +kernel
theorem dX3_eatenIn_18 : decode cX3_eatenIn 18 = .ok (.iload_n 1, 1) := by decide +kernel
theorem dX3_eatenIn_19 : decode cX3_eatenIn 19 = .ok (.if_icmp .ne 11, 3) := by decide +kernel
theorem dX3_eatenIn_22 : decode cX3_eatenIn 22 = .ok (.iload_n 2, 1) := by decide +kernel
theorem dX3_eatenIn_23 : decode cX3_eatenIn 23 = .ok (.aload_n 0, 1) := by decide +kernel
theorem dX3_eatenIn_24 : decode cX3_eatenIn 24 = .ok (.iload_n 3, 1) := by decide +kernel
theorem dX3_eatenIn_25 : decode cX3_eatenIn 25 = .ok (.invokevirtual 109, 3) := by decide +kernel
theorem dX3_eatenIn_28 : decode cX3_eatenIn 28 = .ok (.iadd, 1) := by decide +kernel
theorem dX3_eatenIn_29 : decode cX3_eatenIn 29 = .ok (.istore_n 2, 1) := by decide +kernel
theorem dX3_eatenIn_30 : decode cX3_eatenIn 30 = .ok (.iinc 3 1, 3) := by decide +kernel
theorem dX3_eatenIn_33 : decode cX3_eatenIn 33 = .ok (.goto (-29), 3) := by decide +kernel
theorem dX3_eatenIn_36 : decode cX3_eatenIn 36 = .ok (.iload_n 2, 1) := by decide +kernel
theorem dX3_eatenIn_37 : decode cX3_eatenIn 37 = .ok (.ireturn, 1) := by decide +kernel
theorem dX3_eatenInAll_0 : decode cX3_eatenInAll 0 = .ok (.iconst 0, 1) := by decide +kernel
theorem dX3_eatenInAll_1 : decode cX3_eatenInAll 1 = .ok (.istore_n 1, 1) := by decide +kernel
theorem dX3_eatenInAll_2 : decode cX3_eatenInAll 2 = .ok (.iconst 0, 1) := by decide +kernel
theorem dX3_eatenInAll_3 : decode cX3_eatenInAll 3 = .ok (.istore_n 2, 1) := by decide +kernel
theorem dX3_eatenInAll_4 : decode cX3_eatenInAll 4 = .ok (.iload_n 2, 1) := by decide +kernel
theorem dX3_eatenInAll_5 : decode cX3_eatenInAll 5 = .ok (.bipush 8, 2) := by decide +kernel
theorem dX3_eatenInAll_7 : decode cX3_eatenInAll 7 = .ok (.if_icmp .ge 17, 3) := by decide +kernel
theorem dX3_eatenInAll_10 : decode cX3_eatenInAll 10 = .ok (.iload_n 1, 1) := by decide +kernel
theorem dX3_eatenInAll_11 : decode cX3_eatenInAll 11 = .ok (.aload_n 0, 1) := by decide +kernel
theorem dX3_eatenInAll_12 : decode cX3_eatenInAll 12 = .ok (.iload_n 2, 1) := by decide +kernel
theorem dX3_eatenInAll_13 : decode cX3_eatenInAll 13 = .ok (.invokevirtual 124, 3) := by decide +kernel
theorem dX3_eatenInAll_16 : decode cX3_eatenInAll 16 = .ok (.iadd, 1) := by decide +kernel
theorem dX3_eatenInAll_17 : decode cX3_eatenInAll 17 = .ok (.istore_n 1, 1) := by decide +kernel
theorem dX3_eatenInAll_18 : decode cX3_eatenInAll 18 = .ok (.iinc 2 1, 3) := by decide +kernel
theorem dX3_eatenInAll_21 : decode cX3_eatenInAll 21 = .ok (.goto (-17), 3) := by decide +kernel
theorem dX3_eatenInAll_24 : decode cX3_eatenInAll 24 = .ok (.iload_n 1, 1) := by decide +kernel
theorem dX3_eatenInAll_25 : decode cX3_eatenInAll 25 = .ok (.ireturn, 1) := by decide +kernel
theorem dX3_bulkOfAll_0 : decode cX3_bulkOfAll 0 = .ok (.iconst 0, 1) := by decide +kernel
theorem dX3_bulkOfAll_1 : decode cX3_bulkOfAll 1 = .ok (.istore_n 1, 1) := by decide +kernel
theorem dX3_bulkOfAll_2 : decode cX3_bulkOfAll 2 = .ok (.iconst 0, 1) := by decide +kernel
theorem dX3_bulkOfAll_3 : decode cX3_bulkOfAll 3 = .ok (.istore_n 2, 1) := by decide +kernel
theorem dX3_bulkOfAll_4 : decode cX3_bulkOfAll 4 = .ok (.iload_n 2, 1) := by decide +kernel
theorem dX3_bulkOfAll_5 : decode cX3_bulkOfAll 5 = .ok (.aload_n 0, 1) := by decide +kernel
theorem dX3_bulkOfAll_6 : decode cX3_bulkOfAll 6 = .ok (.getfield 24, 3) := by decide +kernel
theorem dX3_bulkOfAll_9 : decode cX3_bulkOfAll 9 = .ok (.if_icmp .ge 18, 3) := by decide +kernel
theorem dX3_bulkOfAll_12 : decode cX3_bulkOfAll 12 = .ok (.iload_n 1, 1) := by decide +kernel
theorem dX3_bulkOfAll_13 : decode cX3_bulkOfAll 13 = .ok (.aload_n 0, 1) := by decide +kernel
theorem dX3_bulkOfAll_14 : decode cX3_bulkOfAll 14 = .ok (.getfield 34, 3) := by decide +kernel
theorem dX3_bulkOfAll_17 : decode cX3_bulkOfAll 17 = .ok (.iload_n 2, 1) := by decide +kernel
theorem dX3_bulkOfAll_18 : decode cX3_bulkOfAll 18 = .ok (.iaload, 1) := by decide +kernel
theorem dX3_bulkOfAll_19 : decode cX3_bulkOfAll 19 = .ok (.iadd, 1) := by decide +kernel
theorem dX3_bulkOfAll_20 : decode cX3_bulkOfAll 20 = .ok (.istore_n 1, 1) := by decide +kernel
theorem dX3_bulkOfAll_21 : decode cX3_bulkOfAll 21 = .ok (.iinc 2 1, 3) := by decide +kernel
theorem dX3_bulkOfAll_24 : decode cX3_bulkOfAll 24 = .ok (.goto (-20), 3) := by decide +kernel
theorem dX3_bulkOfAll_27 : decode cX3_bulkOfAll 27 = .ok (.iload_n 1, 1) := by decide +kernel
theorem dX3_bulkOfAll_28 : decode cX3_bulkOfAll 28 = .ok (.ireturn, 1) := by decide +kernel
theorem dX3_freeBeds_0 : decode cX3_freeBeds 0 = .ok (.iconst 0, 1) := by decide +kernel
theorem dX3_freeBeds_1 : decode cX3_freeBeds 1 = .ok (.istore_n 1, 1) := by decide +kernel
theorem dX3_freeBeds_2 : decode cX3_freeBeds 2 = .ok (.iconst 0, 1) := by decide +kernel
theorem dX3_freeBeds_3 : decode cX3_freeBeds 3 = .ok (.istore_n 2, 1) := by decide +kernel
theorem dX3_freeBeds_4 : decode cX3_freeBeds 4 = .ok (.iload_n 2, 1) := by decide +kernel
theorem dX3_freeBeds_5 : decode cX3_freeBeds 5 = .ok (.bipush 8, 2) := by decide +kernel
theorem dX3_freeBeds_7 : decode cX3_freeBeds 7 = .ok (.if_icmp .ge 29, 3) := by decide +kernel
theorem dX3_freeBeds_10 : decode cX3_freeBeds 10 = .ok (.iload_n 1, 1) := by decide +kernel
theorem dX3_freeBeds_11 : decode cX3_freeBeds 11 = .ok (.iconst 0, 1) := by decide +kernel
theorem dX3_freeBeds_12 : decode cX3_freeBeds 12 = .ok (.aload_n 0, 1) := by decide +kernel
theorem dX3_freeBeds_13 : decode cX3_freeBeds 13 = .ok (.getfield 9, 3) := by decide +kernel
theorem dX3_freeBeds_16 : decode cX3_freeBeds 16 = .ok (.iload_n 2, 1) := by decide +kernel
theorem dX3_freeBeds_17 : decode cX3_freeBeds 17 = .ok (.iaload, 1) := by decide +kernel
theorem dX3_freeBeds_18 : decode cX3_freeBeds 18 = .ok (.aload_n 0, 1) := by decide +kernel
theorem dX3_freeBeds_19 : decode cX3_freeBeds 19 = .ok (.getfield 21, 3) := by decide +kernel
theorem dX3_freeBeds_22 : decode cX3_freeBeds 22 = .ok (.iload_n 2, 1) := by decide +kernel
theorem dX3_freeBeds_23 : decode cX3_freeBeds 23 = .ok (.iaload, 1) := by decide +kernel
theorem dX3_freeBeds_24 : decode cX3_freeBeds 24 = .ok (.isub, 1) := by decide +kernel
theorem dX3_freeBeds_25 : decode cX3_freeBeds 25 = .ok (.invokestatic 127, 3) := by decide +kernel
theorem dX3_freeBeds_28 : decode cX3_freeBeds 28 = .ok (.iadd, 1) := by decide +kernel
theorem dX3_freeBeds_29 : decode cX3_freeBeds 29 = .ok (.istore_n 1, 1) := by decide +kernel
theorem dX3_freeBeds_30 : decode cX3_freeBeds 30 = .ok (.iinc 2 1, 3) := by decide +kernel
theorem dX3_freeBeds_33 : decode cX3_freeBeds 33 = .ok (.goto (-29), 3) := by decide +kernel
theorem dX3_freeBeds_36 : decode cX3_freeBeds 36 = .ok (.iload_n 1, 1) := by decide +kernel
theorem dX3_freeBeds_37 : decode cX3_freeBeds 37 = .ok (.ireturn, 1) := by decide +kernel
end
section
theorem dX4_init_0 : decode cX4_init 0 = .ok (.aload_n 0, 1) := by decide +kernel
theorem dX4_init_1 : decode cX4_init 1 = .ok (.invokespecial 1, 3) := by decide +kernel
theorem dX4_init_4 : decode cX4_init 4 = .ok (.aload_n 0, 1) := by decide +kernel
theorem dX4_init_5 : decode cX4_init 5 = .ok (.new 7, 3) := by decide +kernel
theorem dX4_init_8 : decode cX4_init 8 = .ok (.dup, 1) := by decide +kernel
theorem dX4_init_9 : decode cX4_init 9 = .ok (.invokespecial 9, 3) := by decide +kernel
theorem dX4_init_12 : decode cX4_init 12 = .ok (.putfield 10, 3) := by decide +kernel
theorem dX4_init_15 : decode cX4_init 15 = .ok (.aload_n 0, 1) := by decide +kernel
theorem dX4_init_16 : decode cX4_init 16 = .ok (.new 7, 3) := by decide +kernel
theorem dX4_init_19 : decode cX4_init 19 = .ok (.dup, 1) := by decide +kernel
theorem dX4_init_20 : decode cX4_init 20 = .ok (.invokespecial 9, 3) := by decide +kernel
theorem dX4_init_23 : decode cX4_init 23 = .ok (.putfield 16, 3) := by decide +kernel
theorem dX4_init_26 : decode cX4_init 26 = .ok (.aload_n 0, 1) := by decide +kernel
theorem dX4_init_27 : decode cX4_init 27 = .ok (.new 7, 3) := by decide +kernel
theorem dX4_init_30 : decode cX4_init 30 = .ok (.dup, 1) := by decide +kernel
theorem dX4_init_31 : decode cX4_init 31 = .ok (.invokespecial 9, 3) := by decide +kernel
theorem dX4_init_34 : decode cX4_init 34 = .ok (.putfield 19, 3) := by decide +kernel
theorem dX4_init_37 : decode cX4_init 37 = .ok (.aload_n 0, 1) := by decide +kernel
theorem dX4_init_38 : decode cX4_init 38 = .ok (.iconst 0, 1) := by decide +kernel
theorem dX4_init_39 : decode cX4_init 39 = .ok (.putfield 22, 3) := by decide +kernel
theorem dX4_init_42 : decode cX4_init 42 = .ok (.aload_n 0, 1) := by decide +kernel
theorem dX4_init_43 : decode cX4_init 43 = .ok (.new 26, 3) := by decide +kernel
theorem dX4_init_46 : decode cX4_init 46 = .ok (.dup, 1) := by decide +kernel
theorem dX4_init_47 : decode cX4_init 47 = .ok (.invokespecial 28, 3) := by decide +kernel
theorem dX4_init_50 : decode cX4_init 50 = .ok (.putfield 29, 3) := by decide +kernel
theorem dX4_init_53 : decode cX4_init 53 = .ok (.aload_n 0, 1) := by decide +kernel
theorem dX4_init_54 : decode cX4_init 54 = .ok (.iconst 4, 1) := by decide +kernel
theorem dX4_init_55 : decode cX4_init 55 = .ok (.anewarray 33, 3) := by decide +kernel
theorem dX4_init_58 : decode cX4_init 58 = .ok (.putfield 35, 3) := by decide +kernel
theorem dX4_init_61 : decode cX4_init 61 = .ok (.aload_n 0, 1) := by decide +kernel
theorem dX4_init_62 : decode cX4_init 62 = .ok (.bipush 7, 2) := by decide +kernel
theorem dX4_init_64 : decode cX4_init 64 = .ok (.newarray .int, 2) := by decide +kernel
theorem dX4_init_66 : decode cX4_init 66 = .ok (.putfield 39, 3) := by decide +kernel
theorem dX4_init_69 : decode cX4_init 69 = .ok (.iconst 0, 1) := by decide +kernel
theorem dX4_init_70 : decode cX4_init 70 = .ok (.istore_n 1, 1) := by decide +kernel
theorem dX4_init_71 : decode cX4_init 71 = .ok (.iload_n 1, 1) := by decide +kernel
theorem dX4_init_72 : decode cX4_init 72 = .ok (.iconst 4, 1) := by decide +kernel
theorem dX4_init_73 : decode cX4_init 73 = .ok (.if_icmp .ge 22, 3) := by decide +kernel
theorem dX4_init_76 : decode cX4_init 76 = .ok (.aload_n 0, 1) := by decide +kernel
theorem dX4_init_77 : decode cX4_init 77 = .ok (.getfield 35, 3) := by decide +kernel
theorem dX4_init_80 : decode cX4_init 80 = .ok (.iload_n 1, 1) := by decide +kernel
theorem dX4_init_81 : decode cX4_init 81 = .ok (.new 33, 3) := by decide +kernel
theorem dX4_init_84 : decode cX4_init 84 = .ok (.dup, 1) := by decide +kernel
theorem dX4_init_85 : decode cX4_init 85 = .ok (.invokespecial 43, 3) := by decide +kernel
theorem dX4_init_88 : decode cX4_init 88 = .ok (.aastore, 1) := by decide +kernel
theorem dX4_init_89 : decode cX4_init 89 = .ok (.iinc 1 1, 3) := by decide +kernel
theorem dX4_init_92 : decode cX4_init 92 = .ok (.goto (-21), 3) := by decide +kernel
theorem dX4_init_95 : decode cX4_init 95 = .ok (.return_, 1) := by decide +kernel
theorem dX4_house_0 : decode cX4_house 0 = .ok (.iload_n 1, 1) := by decide +kernel
theorem dX4_house_1 : decode cX4_house 1 = .ok (.invokestatic 44, 3) := by decide +kernel
theorem dX4_house_4 : decode cX4_house 4 = .ok (.ifCond .eq 14, 3) := by decide +kernel
theorem dX4_house_7 : decode cX4_house 7 = .ok (.iload_n 3, 1) := by decide +kernel
theorem dX4_house_8 : decode cX4_house 8 = .ok (.iload_n 2, 1) := by decide +kernel
theorem dX4_house_9 : decode cX4_house 9 = .ok (.invokestatic 48, 3) := by decide +kernel
theorem dX4_house_12 : decode cX4_house 12 = .ok (.invokestatic 52, 3) := by decide +kernel
theorem dX4_house_15 : decode cX4_house 15 = .ok (.ifCond .ne 10, 3) := by decide +kernel
theorem dX4_house_18 : decode cX4_house 18 = .ok (.aload_n 0, 1) := by decide +kernel
theorem dX4_house_19 : decode cX4_house 19 = .ok (.ldc 56, 2) := by decide +kernel
theorem dX4_house_21 : decode cX4_house 21 = .ok (.invokevirtual 57, 3) := by decide +kernel
theorem dX4_house_24 : decode cX4_house 24 = .ok (.ireturn, 1) := by decide +kernel
theorem dX4_house_25 : decode cX4_house 25 = .ok (.iload_n 2, 1) := by decide +kernel
theorem dX4_house_26 : decode cX4_house 26 = .ok (.ifCond .ne 13, 3) := by decide +kernel
theorem dX4_house_29 : decode cX4_house 29 = .ok (.aload_n 0, 1) := by decide +kernel
theorem dX4_house_30 : decode cX4_house 30 = .ok (.getfield 10, 3) := by decide +kernel
theorem dX4_house_33 : decode cX4_house 33 = .ok (.getfield 60, 3) := by decide +kernel
theorem dX4_house_36 : decode cX4_house 36 = .ok (.goto 25, 3) := by decide +kernel
theorem dX4_house_39 : decode cX4_house 39 = .ok (.iload_n 2, 1) := by decide +kernel
theorem dX4_house_40 : decode cX4_house 40 = .ok (.iconst 1, 1) := by decide +kernel
theorem dX4_house_41 : decode cX4_house 41 = .ok (.if_icmp .ne 13, 3) := by decide +kernel
theorem dX4_house_44 : decode cX4_house 44 = .ok (.aload_n 0, 1) := by decide +kernel
theorem dX4_house_45 : decode cX4_house 45 = .ok (.getfield 10, 3) := by decide +kernel
theorem dX4_house_48 : decode cX4_house 48 = .ok (.getfield 63, 3) := by decide +kernel
theorem dX4_house_51 : decode cX4_house 51 = .ok (.goto 10, 3) := by decide +kernel
theorem dX4_house_54 : decode cX4_house 54 = .ok (.aload_n 0, 1) := by decide +kernel
theorem dX4_house_55 : decode cX4_house 55 = .ok (.getfield 10, 3) := by decide +kernel
theorem dX4_house_58 : decode cX4_house 58 = .ok (.getfield 66, 3) := by decide +kernel
theorem dX4_house_61 : decode cX4_house 61 = .ok (.astore 4, 2) := by decide +kernel
theorem dX4_house_63 : decode cX4_house 63 = .ok (.aload 4, 2) := by decide +kernel
theorem dX4_house_65 : decode cX4_house 65 = .ok (.iload_n 1, 1) := by decide +kernel
theorem dX4_house_66 : decode cX4_house 66 = .ok (.iaload, 1) := by decide +kernel
theorem dX4_house_67 : decode cX4_house 67 = .ok (.istore 5, 2) := by decide +kernel
theorem dX4_house_69 : decode cX4_house 69 = .ok (.aload 4, 2) := by decide +kernel
theorem dX4_house_71 : decode cX4_house 71 = .ok (.iload_n 1, 1) := by decide +kernel
theorem dX4_house_72 : decode cX4_house 72 = .ok (.iload_n 3, 1) := by decide +kernel
theorem dX4_house_73 : decode cX4_house 73 = .ok (.iastore, 1) := by decide +kernel
theorem dX4_house_74 : decode cX4_house 74 = .ok (.iload 5, 2) := by decide +kernel
theorem dX4_house_76 : decode cX4_house 76 = .ok (.ireturn, 1) := by decide +kernel
theorem dX4_houseOf_0 : decode cX4_houseOf 0 = .ok (.iload_n 1, 1) := by decide +kernel
theorem dX4_houseOf_1 : decode cX4_houseOf 1 = .ok (.invokestatic 44, 3) := by decide +kernel
theorem dX4_houseOf_4 : decode cX4_houseOf 4 = .ok (.ifCond .ne 10, 3) := by decide +kernel
theorem dX4_houseOf_7 : decode cX4_houseOf 7 = .ok (.aload_n 0, 1) := by decide +kernel
theorem dX4_houseOf_8 : decode cX4_houseOf 8 = .ok (.ldc 56, 2) := by decide +kernel
theorem dX4_houseOf_10 : decode cX4_houseOf 10 = .ok (.invokevirtual 57, 3) := by decide +kernel
theorem dX4_houseOf_13 : decode cX4_houseOf 13 = .ok (.ireturn, 1) := by decide +kernel
theorem dX4_houseOf_14 : decode cX4_houseOf 14 = .ok (.iload_n 2, 1) := by decide +kernel
theorem dX4_houseOf_15 : decode cX4_houseOf 15 = .ok (.tableswitch 94 0 5 #[37, 47, 57, 67, 76, 85], 37) := by decide +kernel
theorem dX4_houseOf_52 : decode cX4_houseOf 52 = .ok (.aload_n 0, 1) := by decide +kernel
theorem dX4_houseOf_53 : decode cX4_houseOf 53 = .ok (.getfield 10, 3) := by decide +kernel
theorem dX4_houseOf_56 : decode cX4_houseOf 56 = .ok (.getfield 60, 3) := by decide +kernel
theorem dX4_houseOf_59 : decode cX4_houseOf 59 = .ok (.iload_n 1, 1) := by decide +kernel
theorem dX4_houseOf_60 : decode cX4_houseOf 60 = .ok (.iaload, 1) := by decide +kernel
theorem dX4_houseOf_61 : decode cX4_houseOf 61 = .ok (.ireturn, 1) := by decide +kernel
theorem dX4_houseOf_62 : decode cX4_houseOf 62 = .ok (.aload_n 0, 1) := by decide +kernel
theorem dX4_houseOf_63 : decode cX4_houseOf 63 = .ok (.getfield 10, 3) := by decide +kernel
theorem dX4_houseOf_66 : decode cX4_houseOf 66 = .ok (.getfield 63, 3) := by decide +kernel
theorem dX4_houseOf_69 : decode cX4_houseOf 69 = .ok (.iload_n 1, 1) := by decide +kernel
theorem dX4_houseOf_70 : decode cX4_houseOf 70 = .ok (.iaload, 1) := by decide +kernel
theorem dX4_houseOf_71 : decode cX4_houseOf 71 = .ok (.ireturn, 1) := by decide +kernel
theorem dX4_houseOf_72 : decode cX4_houseOf 72 = .ok (.aload_n 0, 1) := by decide +kernel
theorem dX4_houseOf_73 : decode cX4_houseOf 73 = .ok (.getfield 10, 3) := by decide +kernel
theorem dX4_houseOf_76 : decode cX4_houseOf 76 = .ok (.getfield 66, 3) := by decide +kernel
theorem dX4_houseOf_79 : decode cX4_houseOf 79 = .ok (.iload_n 1, 1) := by decide +kernel
theorem dX4_houseOf_80 : decode cX4_houseOf 80 = .ok (.iaload, 1) := by decide +kernel
theorem dX4_houseOf_81 : decode cX4_houseOf 81 = .ok (.ireturn, 1) := by decide +kernel
theorem dX4_houseOf_82 : decode cX4_houseOf 82 = .ok (.aload_n 0, 1) := by decide +kernel
theorem dX4_houseOf_83 : decode cX4_houseOf 83 = .ok (.getfield 10, 3) := by decide +kernel
theorem dX4_houseOf_86 : decode cX4_houseOf 86 = .ok (.iload_n 1, 1) := by decide +kernel
theorem dX4_houseOf_87 : decode cX4_houseOf 87 = .ok (.invokevirtual 69, 3) := by decide +kernel
theorem dX4_houseOf_90 : decode cX4_houseOf 90 = .ok (.ireturn, 1) := by decide +kernel
theorem dX4_houseOf_91 : decode cX4_houseOf 91 = .ok (.aload_n 0, 1) := by decide +kernel
theorem dX4_houseOf_92 : decode cX4_houseOf 92 = .ok (.getfield 10, 3) := by decide +kernel
theorem dX4_houseOf_95 : decode cX4_houseOf 95 = .ok (.iload_n 1, 1) := by decide +kernel
theorem dX4_houseOf_96 : decode cX4_houseOf 96 = .ok (.invokevirtual 72, 3) := by decide +kernel
theorem dX4_houseOf_99 : decode cX4_houseOf 99 = .ok (.ireturn, 1) := by decide +kernel
theorem dX4_houseOf_100 : decode cX4_houseOf 100 = .ok (.aload_n 0, 1) := by decide +kernel
theorem dX4_houseOf_101 : decode cX4_houseOf 101 = .ok (.getfield 10, 3) := by decide +kernel
theorem dX4_houseOf_104 : decode cX4_houseOf 104 = .ok (.iload_n 1, 1) := by decide +kernel
theorem dX4_houseOf_105 : decode cX4_houseOf 105 = .ok (.invokevirtual 75, 3) := by decide +kernel
theorem dX4_houseOf_108 : decode cX4_houseOf 108 = .ok (.ireturn, 1) := by decide +kernel
theorem dX4_houseOf_109 : decode cX4_houseOf 109 = .ok (.aload_n 0, 1) := by decide +kernel
theorem dX4_houseOf_110 : decode cX4_houseOf 110 = .ok (.ldc 56, 2) := by decide +kernel
theorem dX4_houseOf_112 : decode cX4_houseOf 112 = .ok (.invokevirtual 57, 3) := by decide +kernel
theorem dX4_houseOf_115 : decode cX4_houseOf 115 = .ok (.ireturn, 1) := by decide +kernel
theorem dX4_rumour_0 : decode cX4_rumour 0 = .ok (.iload_n 1, 1) := by decide +kernel
theorem dX4_rumour_1 : decode cX4_rumour 1 = .ok (.invokestatic 78, 3) := by decide +kernel
theorem dX4_rumour_4 : decode cX4_rumour 4 = .ok (.ifCond .eq 10, 3) := by decide +kernel
theorem dX4_rumour_7 : decode cX4_rumour 7 = .ok (.iload_n 2, 1) := by decide +kernel
theorem dX4_rumour_8 : decode cX4_rumour 8 = .ok (.invokestatic 81, 3) := by decide +kernel
theorem dX4_rumour_11 : decode cX4_rumour 11 = .ok (.ifCond .ne 10, 3) := by decide +kernel
theorem dX4_rumour_14 : decode cX4_rumour 14 = .ok (.aload_n 0, 1) := by decide +kernel
theorem dX4_rumour_15 : decode cX4_rumour 15 = .ok (.ldc 56, 2) := by decide +kernel
theorem dX4_rumour_17 : decode cX4_rumour 17 = .ok (.invokevirtual 57, 3) := by decide +kernel
theorem dX4_rumour_20 : decode cX4_rumour 20 = .ok (.ireturn, 1) := by decide +kernel
theorem dX4_rumour_21 : decode cX4_rumour 21 = .ok (.aload_n 0, 1) := by decide +kernel
theorem dX4_rumour_22 : decode cX4_rumour 22 = .ok (.getfield 10, 3) := by decide +kernel
theorem dX4_rumour_25 : decode cX4_rumour 25 = .ok (.invokevirtual 84, 3) := by decide +kernel
theorem dX4_rumour_28 : decode cX4_rumour 28 = .ok (.ifCond .eq 10, 3) := by decide +kernel
theorem dX4_rumour_31 : decode cX4_rumour 31 = .ok (.aload_n 0, 1) := by decide +kernel
theorem dX4_rumour_32 : decode cX4_rumour 32 = .ok (.ldc 88, 2) := by decide +kernel
theorem dX4_rumour_34 : decode cX4_rumour 34 = .ok (.invokevirtual 57, 3) := by decide +kernel
theorem dX4_rumour_37 : decode cX4_rumour 37 = .ok (.ireturn, 1) := by decide +kernel
theorem dX4_rumour_38 : decode cX4_rumour 38 = .ok (.aload_n 0, 1) := by decide +kernel
theorem dX4_rumour_39 : decode cX4_rumour 39 = .ok (.getfield 10, 3) := by decide +kernel
theorem dX4_rumour_42 : decode cX4_rumour 42 = .ok (.iload_n 1, 1) := by decide +kernel
theorem dX4_rumour_43 : decode cX4_rumour 43 = .ok (.iload_n 2, 1) := by decide +kernel
theorem dX4_rumour_44 : decode cX4_rumour 44 = .ok (.bipush 10, 2) := by decide +kernel
theorem dX4_rumour_46 : decode cX4_rumour 46 = .ok (.invokevirtual 89, 3) := by decide +kernel
theorem dX4_rumour_49 : decode cX4_rumour 49 = .ok (.ireturn, 1) := by decide +kernel
theorem dX4_of_0 : decode cX4_of 0 = .ok (.aload_n 0, 1) := by decide +kernel
theorem dX4_of_1 : decode cX4_of 1 = .ok (.iload_n 1, 1) := by decide +kernel
theorem dX4_of_2 : decode cX4_of 2 = .ok (.invokevirtual 93, 3) := by decide +kernel
theorem dX4_of_5 : decode cX4_of 5 = .ok (.ifCond .ne 10, 3) := by decide +kernel
theorem dX4_of_8 : decode cX4_of 8 = .ok (.aload_n 0, 1) := by decide +kernel
theorem dX4_of_9 : decode cX4_of 9 = .ok (.ldc 56, 2) := by decide +kernel
theorem dX4_of_11 : decode cX4_of 11 = .ok (.invokevirtual 57, 3) := by decide +kernel
theorem dX4_of_14 : decode cX4_of 14 = .ok (.ireturn, 1) := by decide +kernel
theorem dX4_of_15 : decode cX4_of 15 = .ok (.iload_n 2, 1) := by decide +kernel
theorem dX4_of_16 : decode cX4_of 16 = .ok (.tableswitch 125 0 7 #[48, 58, 68, 78, 88, 98, 107, 116], 48) := by decide +kernel
theorem dX4_of_64 : decode cX4_of 64 = .ok (.aload_n 0, 1) := by decide +kernel
theorem dX4_of_65 : decode cX4_of 65 = .ok (.getfield 10, 3) := by decide +kernel
theorem dX4_of_68 : decode cX4_of 68 = .ok (.getfield 96, 3) := by decide +kernel
theorem dX4_of_71 : decode cX4_of 71 = .ok (.iload_n 1, 1) := by decide +kernel
theorem dX4_of_72 : decode cX4_of 72 = .ok (.iaload, 1) := by decide +kernel
theorem dX4_of_73 : decode cX4_of 73 = .ok (.ireturn, 1) := by decide +kernel
theorem dX4_of_74 : decode cX4_of 74 = .ok (.aload_n 0, 1) := by decide +kernel
theorem dX4_of_75 : decode cX4_of 75 = .ok (.getfield 10, 3) := by decide +kernel
theorem dX4_of_78 : decode cX4_of 78 = .ok (.getfield 99, 3) := by decide +kernel
theorem dX4_of_81 : decode cX4_of 81 = .ok (.iload_n 1, 1) := by decide +kernel
theorem dX4_of_82 : decode cX4_of 82 = .ok (.iaload, 1) := by decide +kernel
theorem dX4_of_83 : decode cX4_of 83 = .ok (.ireturn, 1) := by decide +kernel
theorem dX4_of_84 : decode cX4_of 84 = .ok (.aload_n 0, 1) := by decide +kernel
theorem dX4_of_85 : decode cX4_of 85 = .ok (.getfield 10, 3) := by decide +kernel
theorem dX4_of_88 : decode cX4_of 88 = .ok (.getfield 102, 3) := by decide +kernel
theorem dX4_of_91 : decode cX4_of 91 = .ok (.iload_n 1, 1) := by decide +kernel
theorem dX4_of_92 : decode cX4_of 92 = .ok (.iaload, 1) := by decide +kernel
theorem dX4_of_93 : decode cX4_of 93 = .ok (.ireturn, 1) := by decide +kernel
theorem dX4_of_94 : decode cX4_of 94 = .ok (.aload_n 0, 1) := by decide +kernel
theorem dX4_of_95 : decode cX4_of 95 = .ok (.getfield 10, 3) := by decide +kernel
theorem dX4_of_98 : decode cX4_of 98 = .ok (.getfield 105, 3) := by decide +kernel
theorem dX4_of_101 : decode cX4_of 101 = .ok (.iload_n 1, 1) := by decide +kernel
theorem dX4_of_102 : decode cX4_of 102 = .ok (.iaload, 1) := by decide +kernel
theorem dX4_of_103 : decode cX4_of 103 = .ok (.ireturn, 1) := by decide +kernel
theorem dX4_of_104 : decode cX4_of 104 = .ok (.aload_n 0, 1) := by decide +kernel
theorem dX4_of_105 : decode cX4_of 105 = .ok (.getfield 10, 3) := by decide +kernel
theorem dX4_of_108 : decode cX4_of 108 = .ok (.getfield 108, 3) := by decide +kernel
theorem dX4_of_111 : decode cX4_of 111 = .ok (.iload_n 1, 1) := by decide +kernel
theorem dX4_of_112 : decode cX4_of 112 = .ok (.iaload, 1) := by decide +kernel
theorem dX4_of_113 : decode cX4_of 113 = .ok (.ireturn, 1) := by decide +kernel
theorem dX4_of_114 : decode cX4_of 114 = .ok (.aload_n 0, 1) := by decide +kernel
theorem dX4_of_115 : decode cX4_of 115 = .ok (.getfield 10, 3) := by decide +kernel
theorem dX4_of_118 : decode cX4_of 118 = .ok (.iload_n 1, 1) := by decide +kernel
theorem dX4_of_119 : decode cX4_of 119 = .ok (.invokevirtual 111, 3) := by decide +kernel
theorem dX4_of_122 : decode cX4_of 122 = .ok (.ireturn, 1) := by decide +kernel
theorem dX4_of_123 : decode cX4_of 123 = .ok (.aload_n 0, 1) := by decide +kernel
theorem dX4_of_124 : decode cX4_of 124 = .ok (.getfield 10, 3) := by decide +kernel
theorem dX4_of_127 : decode cX4_of 127 = .ok (.iload_n 1, 1) := by decide +kernel
theorem dX4_of_128 : decode cX4_of 128 = .ok (.invokevirtual 114, 3) := by decide +kernel
theorem dX4_of_131 : decode cX4_of 131 = .ok (.ireturn, 1) := by decide +kernel
theorem dX4_of_132 : decode cX4_of 132 = .ok (.aload_n 0, 1) := by decide +kernel
theorem dX4_of_133 : decode cX4_of 133 = .ok (.getfield 10, 3) := by decide +kernel
theorem dX4_of_136 : decode cX4_of 136 = .ok (.iload_n 1, 1) := by decide +kernel
theorem dX4_of_137 : decode cX4_of 137 = .ok (.invokevirtual 117, 3) := by decide +kernel
theorem dX4_of_140 : decode cX4_of 140 = .ok (.ireturn, 1) := by decide +kernel
theorem dX4_of_141 : decode cX4_of 141 = .ok (.aload_n 0, 1) := by decide +kernel
theorem dX4_of_142 : decode cX4_of 142 = .ok (.ldc 56, 2) := by decide +kernel
theorem dX4_of_144 : decode cX4_of 144 = .ok (.invokevirtual 57, 3) := by decide +kernel
theorem dX4_of_147 : decode cX4_of 147 = .ok (.ireturn, 1) := by decide +kernel
theorem dX4_set_0 : decode cX4_set 0 = .ok (.aload_n 0, 1) := by decide +kernel
theorem dX4_set_1 : decode cX4_set 1 = .ok (.iload_n 1, 1) := by decide +kernel
theorem dX4_set_2 : decode cX4_set 2 = .ok (.invokevirtual 93, 3) := by decide +kernel
theorem dX4_set_5 : decode cX4_set 5 = .ok (.ifCond .eq 14, 3) := by decide +kernel
theorem dX4_set_8 : decode cX4_set 8 = .ok (.iload_n 3, 1) := by decide +kernel
theorem dX4_set_9 : decode cX4_set 9 = .ok (.iload_n 2, 1) := by decide +kernel
theorem dX4_set_10 : decode cX4_set 10 = .ok (.invokestatic 120, 3) := by decide +kernel
theorem dX4_set_13 : decode cX4_set 13 = .ok (.invokestatic 52, 3) := by decide +kernel
theorem dX4_set_16 : decode cX4_set 16 = .ok (.ifCond .ne 10, 3) := by decide +kernel
theorem dX4_set_19 : decode cX4_set 19 = .ok (.aload_n 0, 1) := by decide +kernel
theorem dX4_set_20 : decode cX4_set 20 = .ok (.ldc 56, 2) := by decide +kernel
theorem dX4_set_22 : decode cX4_set 22 = .ok (.invokevirtual 57, 3) := by decide +kernel
theorem dX4_set_25 : decode cX4_set 25 = .ok (.ireturn, 1) := by decide +kernel
theorem dX4_set_26 : decode cX4_set 26 = .ok (.iload_n 2, 1) := by decide +kernel
theorem dX4_set_27 : decode cX4_set 27 = .ok (.iconst 1, 1) := by decide +kernel
theorem dX4_set_28 : decode cX4_set 28 = .ok (.if_icmp .ne 13, 3) := by decide +kernel
theorem dX4_set_31 : decode cX4_set 31 = .ok (.aload_n 0, 1) := by decide +kernel
theorem dX4_set_32 : decode cX4_set 32 = .ok (.getfield 10, 3) := by decide +kernel
theorem dX4_set_35 : decode cX4_set 35 = .ok (.getfield 99, 3) := by decide +kernel
theorem dX4_set_38 : decode cX4_set 38 = .ok (.goto 25, 3) := by decide +kernel
theorem dX4_set_41 : decode cX4_set 41 = .ok (.iload_n 2, 1) := by decide +kernel
theorem dX4_set_42 : decode cX4_set 42 = .ok (.iconst 2, 1) := by decide +kernel
theorem dX4_set_43 : decode cX4_set 43 = .ok (.if_icmp .ne 13, 3) := by decide +kernel
theorem dX4_set_46 : decode cX4_set 46 = .ok (.aload_n 0, 1) := by decide +kernel
theorem dX4_set_47 : decode cX4_set 47 = .ok (.getfield 10, 3) := by decide +kernel
theorem dX4_set_50 : decode cX4_set 50 = .ok (.getfield 102, 3) := by decide +kernel
theorem dX4_set_53 : decode cX4_set 53 = .ok (.goto 10, 3) := by decide +kernel
theorem dX4_set_56 : decode cX4_set 56 = .ok (.aload_n 0, 1) := by decide +kernel
theorem dX4_set_57 : decode cX4_set 57 = .ok (.getfield 10, 3) := by decide +kernel
theorem dX4_set_60 : decode cX4_set 60 = .ok (.getfield 105, 3) := by decide +kernel
theorem dX4_set_63 : decode cX4_set 63 = .ok (.astore 4, 2) := by decide +kernel
theorem dX4_set_65 : decode cX4_set 65 = .ok (.aload 4, 2) := by decide +kernel
theorem dX4_set_67 : decode cX4_set 67 = .ok (.iload_n 1, 1) := by decide +kernel
theorem dX4_set_68 : decode cX4_set 68 = .ok (.iaload, 1) := by decide +kernel
theorem dX4_set_69 : decode cX4_set 69 = .ok (.istore 5, 2) := by decide +kernel
theorem dX4_set_71 : decode cX4_set 71 = .ok (.aload 4, 2) := by decide +kernel
theorem dX4_set_73 : decode cX4_set 73 = .ok (.iload_n 1, 1) := by decide +kernel
theorem dX4_set_74 : decode cX4_set 74 = .ok (.iload_n 3, 1) := by decide +kernel
theorem dX4_set_75 : decode cX4_set 75 = .ok (.iastore, 1) := by decide +kernel
theorem dX4_set_76 : decode cX4_set 76 = .ok (.iload 5, 2) := by decide +kernel
theorem dX4_set_78 : decode cX4_set 78 = .ok (.ireturn, 1) := by decide +kernel
theorem dX4_turn_0 : decode cX4_turn 0 = .ok (.aload_n 0, 1) := by decide +kernel
theorem dX4_turn_1 : decode cX4_turn 1 = .ok (.iload_n 1, 1) := by decide +kernel
theorem dX4_turn_2 : decode cX4_turn 2 = .ok (.invokevirtual 93, 3) := by decide +kernel
theorem dX4_turn_5 : decode cX4_turn 5 = .ok (.ifCond .eq 10, 3) := by decide +kernel
theorem dX4_turn_8 : decode cX4_turn 8 = .ok (.iload_n 2, 1) := by decide +kernel
theorem dX4_turn_9 : decode cX4_turn 9 = .ok (.invokestatic 78, 3) := by decide +kernel
theorem dX4_turn_12 : decode cX4_turn 12 = .ok (.ifCond .ne 10, 3) := by decide +kernel
theorem dX4_turn_15 : decode cX4_turn 15 = .ok (.aload_n 0, 1) := by decide +kernel
theorem dX4_turn_16 : decode cX4_turn 16 = .ok (.ldc 56, 2) := by decide +kernel
theorem dX4_turn_18 : decode cX4_turn 18 = .ok (.invokevirtual 57, 3) := by decide +kernel
theorem dX4_turn_21 : decode cX4_turn 21 = .ok (.ireturn, 1) := by decide +kernel
theorem dX4_turn_22 : decode cX4_turn 22 = .ok (.aload_n 0, 1) := by decide +kernel
theorem dX4_turn_23 : decode cX4_turn 23 = .ok (.getfield 10, 3) := by decide +kernel
theorem dX4_turn_26 : decode cX4_turn 26 = .ok (.getfield 96, 3) := by decide +kernel
theorem dX4_turn_29 : decode cX4_turn 29 = .ok (.iload_n 1, 1) := by decide +kernel
theorem dX4_turn_30 : decode cX4_turn 30 = .ok (.iaload, 1) := by decide +kernel
theorem dX4_turn_31 : decode cX4_turn 31 = .ok (.istore_n 3, 1) := by decide +kernel
theorem dX4_turn_32 : decode cX4_turn 32 = .ok (.aload_n 0, 1) := by decide +kernel
theorem dX4_turn_33 : decode cX4_turn 33 = .ok (.getfield 10, 3) := by decide +kernel
theorem dX4_turn_36 : decode cX4_turn 36 = .ok (.getfield 96, 3) := by decide +kernel
theorem dX4_turn_39 : decode cX4_turn 39 = .ok (.iload_n 1, 1) := by decide +kernel
theorem dX4_turn_40 : decode cX4_turn 40 = .ok (.iload_n 2, 1) := by decide +kernel
theorem dX4_turn_41 : decode cX4_turn 41 = .ok (.iastore, 1) := by decide +kernel
theorem dX4_turn_42 : decode cX4_turn 42 = .ok (.iload_n 3, 1) := by decide +kernel
theorem dX4_turn_43 : decode cX4_turn 43 = .ok (.ireturn, 1) := by decide +kernel
theorem dX4_as_0 : decode cX4_as 0 = .ok (.aload_n 0, 1) := by decide +kernel
theorem dX4_as_1 : decode cX4_as 1 = .ok (.iload_n 1, 1) := by decide +kernel
theorem dX4_as_2 : decode cX4_as 2 = .ok (.invokevirtual 93, 3) := by decide +kernel
theorem dX4_as_5 : decode cX4_as 5 = .ok (.ifCond .eq 10, 3) := by decide +kernel
theorem dX4_as_8 : decode cX4_as 8 = .ok (.iload_n 2, 1) := by decide +kernel
theorem dX4_as_9 : decode cX4_as 9 = .ok (.invokestatic 78, 3) := by decide +kernel
theorem dX4_as_12 : decode cX4_as 12 = .ok (.ifCond .ne 10, 3) := by decide +kernel
theorem dX4_as_15 : decode cX4_as 15 = .ok (.aload_n 0, 1) := by decide +kernel
theorem dX4_as_16 : decode cX4_as 16 = .ok (.ldc 56, 2) := by decide +kernel
theorem dX4_as_18 : decode cX4_as 18 = .ok (.invokevirtual 57, 3) := by decide +kernel
theorem dX4_as_21 : decode cX4_as 21 = .ok (.ireturn, 1) := by decide +kernel
theorem dX4_as_22 : decode cX4_as 22 = .ok (.aload_n 0, 1) := by decide +kernel
theorem dX4_as_23 : decode cX4_as 23 = .ok (.getfield 10, 3) := by decide +kernel
theorem dX4_as_26 : decode cX4_as 26 = .ok (.getfield 96, 3) := by decide +kernel
theorem dX4_as_29 : decode cX4_as 29 = .ok (.iload_n 1, 1) := by decide +kernel
theorem dX4_as_30 : decode cX4_as 30 = .ok (.iaload, 1) := by decide +kernel
theorem dX4_as_31 : decode cX4_as 31 = .ok (.iload_n 2, 1) := by decide +kernel
theorem dX4_as_32 : decode cX4_as 32 = .ok (.invokestatic 123, 3) := by decide +kernel
theorem dX4_as_35 : decode cX4_as 35 = .ok (.ifCond .ne 10, 3) := by decide +kernel
theorem dX4_as_38 : decode cX4_as 38 = .ok (.aload_n 0, 1) := by decide +kernel
theorem dX4_as_39 : decode cX4_as 39 = .ok (.ldc 128, 2) := by decide +kernel
theorem dX4_as_41 : decode cX4_as 41 = .ok (.invokevirtual 57, 3) := by decide +kernel
theorem dX4_as_44 : decode cX4_as 44 = .ok (.ireturn, 1) := by decide +kernel
theorem dX4_as_45 : decode cX4_as 45 = .ok (.aload_n 0, 1) := by decide +kernel
theorem dX4_as_46 : decode cX4_as 46 = .ok (.getfield 10, 3) := by decide +kernel
theorem dX4_as_49 : decode cX4_as 49 = .ok (.getfield 102, 3) := by decide +kernel
theorem dX4_as_52 : decode cX4_as 52 = .ok (.iload_n 1, 1) := by decide +kernel
theorem dX4_as_53 : decode cX4_as 53 = .ok (.iaload, 1) := by decide +kernel
theorem dX4_as_54 : decode cX4_as 54 = .ok (.ireturn, 1) := by decide +kernel
theorem dX4_takes_0 : decode cX4_takes 0 = .ok (.iload_n 1, 1) := by decide +kernel
theorem dX4_takes_1 : decode cX4_takes 1 = .ok (.invokestatic 44, 3) := by decide +kernel
theorem dX4_takes_4 : decode cX4_takes 4 = .ok (.ifCond .eq 11, 3) := by decide +kernel
theorem dX4_takes_7 : decode cX4_takes 7 = .ok (.aload_n 0, 1) := by decide +kernel
theorem dX4_takes_8 : decode cX4_takes 8 = .ok (.iload_n 2, 1) := by decide +kernel
theorem dX4_takes_9 : decode cX4_takes 9 = .ok (.invokevirtual 93, 3) := by decide +kernel
theorem dX4_takes_12 : decode cX4_takes 12 = .ok (.ifCond .ne 10, 3) := by decide +kernel
theorem dX4_takes_15 : decode cX4_takes 15 = .ok (.aload_n 0, 1) := by decide +kernel
theorem dX4_takes_16 : decode cX4_takes 16 = .ok (.ldc 56, 2) := by decide +kernel
theorem dX4_takes_18 : decode cX4_takes 18 = .ok (.invokevirtual 57, 3) := by decide +kernel
theorem dX4_takes_21 : decode cX4_takes 21 = .ok (.ireturn, 1) := by decide +kernel
theorem dX4_takes_22 : decode cX4_takes 22 = .ok (.aload_n 0, 1) := by decide +kernel
theorem dX4_takes_23 : decode cX4_takes 23 = .ok (.getfield 10, 3) := by decide +kernel
theorem dX4_takes_26 : decode cX4_takes 26 = .ok (.iload_n 1, 1) := by decide +kernel
theorem dX4_takes_27 : decode cX4_takes 27 = .ok (.aload_n 0, 1) := by decide +kernel
theorem dX4_takes_28 : decode cX4_takes 28 = .ok (.getfield 10, 3) := by decide +kernel
theorem dX4_takes_31 : decode cX4_takes 31 = .ok (.iload_n 2, 1) := by decide +kernel
theorem dX4_takes_32 : decode cX4_takes 32 = .ok (.invokevirtual 114, 3) := by decide +kernel
theorem dX4_takes_35 : decode cX4_takes 35 = .ok (.invokevirtual 129, 3) := by decide +kernel
theorem dX4_takes_38 : decode cX4_takes 38 = .ok (.ifCond .eq 7, 3) := by decide +kernel
theorem dX4_takes_41 : decode cX4_takes 41 = .ok (.iconst 1, 1) := by decide +kernel
theorem dX4_takes_42 : decode cX4_takes 42 = .ok (.goto 4, 3) := by decide +kernel
theorem dX4_takes_45 : decode cX4_takes 45 = .ok (.iconst 0, 1) := by decide +kernel
theorem dX4_takes_46 : decode cX4_takes 46 = .ok (.ireturn, 1) := by decide +kernel
theorem dX4_comeIn_0 : decode cX4_comeIn 0 = .ok (.aload_n 0, 1) := by decide +kernel
theorem dX4_comeIn_1 : decode cX4_comeIn 1 = .ok (.iload_n 1, 1) := by decide +kernel
theorem dX4_comeIn_2 : decode cX4_comeIn 2 = .ok (.invokevirtual 93, 3) := by decide +kernel
theorem dX4_comeIn_5 : decode cX4_comeIn 5 = .ok (.ifCond .ne 10, 3) := by decide +kernel
theorem dX4_comeIn_8 : decode cX4_comeIn 8 = .ok (.aload_n 0, 1) := by decide +kernel
theorem dX4_comeIn_9 : decode cX4_comeIn 9 = .ok (.ldc 56, 2) := by decide +kernel
theorem dX4_comeIn_11 : decode cX4_comeIn 11 = .ok (.invokevirtual 57, 3) := by decide +kernel
theorem dX4_comeIn_14 : decode cX4_comeIn 14 = .ok (.ireturn, 1) := by decide +kernel
theorem dX4_comeIn_15 : decode cX4_comeIn 15 = .ok (.aload_n 0, 1) := by decide +kernel
theorem dX4_comeIn_16 : decode cX4_comeIn 16 = .ok (.getfield 10, 3) := by decide +kernel
theorem dX4_comeIn_19 : decode cX4_comeIn 19 = .ok (.getfield 108, 3) := by decide +kernel
theorem dX4_comeIn_22 : decode cX4_comeIn 22 = .ok (.iload_n 1, 1) := by decide +kernel
theorem dX4_comeIn_23 : decode cX4_comeIn 23 = .ok (.iaload, 1) := by decide +kernel
theorem dX4_comeIn_24 : decode cX4_comeIn 24 = .ok (.iconst (-1), 1) := by decide +kernel
theorem dX4_comeIn_25 : decode cX4_comeIn 25 = .ok (.if_icmp .ne 22, 3) := by decide +kernel
theorem dX4_comeIn_28 : decode cX4_comeIn 28 = .ok (.aload_n 0, 1) := by decide +kernel
theorem dX4_comeIn_29 : decode cX4_comeIn 29 = .ok (.getfield 10, 3) := by decide +kernel
theorem dX4_comeIn_32 : decode cX4_comeIn 32 = .ok (.aload_n 0, 1) := by decide +kernel
theorem dX4_comeIn_33 : decode cX4_comeIn 33 = .ok (.getfield 10, 3) := by decide +kernel
theorem dX4_comeIn_36 : decode cX4_comeIn 36 = .ok (.getfield 99, 3) := by decide +kernel
theorem dX4_comeIn_39 : decode cX4_comeIn 39 = .ok (.iload_n 1, 1) := by decide +kernel
theorem dX4_comeIn_40 : decode cX4_comeIn 40 = .ok (.iaload, 1) := by decide +kernel
theorem dX4_comeIn_41 : decode cX4_comeIn 41 = .ok (.invokevirtual 132, 3) := by decide +kernel
theorem dX4_comeIn_44 : decode cX4_comeIn 44 = .ok (.ifCond .eq 10, 3) := by decide +kernel
theorem dX4_comeIn_47 : decode cX4_comeIn 47 = .ok (.aload_n 0, 1) := by decide +kernel
theorem dX4_comeIn_48 : decode cX4_comeIn 48 = .ok (.ldc 135, 2) := by decide +kernel
theorem dX4_comeIn_50 : decode cX4_comeIn 50 = .ok (.invokevirtual 57, 3) := by decide +kernel
theorem dX4_comeIn_53 : decode cX4_comeIn 53 = .ok (.ireturn, 1) := by decide +kernel
theorem dX4_comeIn_54 : decode cX4_comeIn 54 = .ok (.aload_n 0, 1) := by decide +kernel
theorem dX4_comeIn_55 : decode cX4_comeIn 55 = .ok (.getfield 10, 3) := by decide +kernel
theorem dX4_comeIn_58 : decode cX4_comeIn 58 = .ok (.iload_n 1, 1) := by decide +kernel
theorem dX4_comeIn_59 : decode cX4_comeIn 59 = .ok (.invokevirtual 136, 3) := by decide +kernel
theorem dX4_comeIn_62 : decode cX4_comeIn 62 = .ok (.istore_n 2, 1) := by decide +kernel
theorem dX4_comeIn_63 : decode cX4_comeIn 63 = .ok (.aload_n 0, 1) := by decide +kernel
theorem dX4_comeIn_64 : decode cX4_comeIn 64 = .ok (.getfield 10, 3) := by decide +kernel
theorem dX4_comeIn_67 : decode cX4_comeIn 67 = .ok (.iload_n 1, 1) := by decide +kernel
theorem dX4_comeIn_68 : decode cX4_comeIn 68 = .ok (.iload_n 2, 1) := by decide +kernel
theorem dX4_comeIn_69 : decode cX4_comeIn 69 = .ok (.invokevirtual 139, 3) := by decide +kernel
theorem dX4_comeIn_72 : decode cX4_comeIn 72 = .ok (.iload_n 2, 1) := by decide +kernel
theorem dX4_comeIn_73 : decode cX4_comeIn 73 = .ok (.ireturn, 1) := by decide +kernel
theorem dX4_improve_0 : decode cX4_improve 0 = .ok (.aload_n 0, 1) := by decide +kernel
theorem dX4_improve_1 : decode cX4_improve 1 = .ok (.iload_n 1, 1) := by decide +kernel
theorem dX4_improve_2 : decode cX4_improve 2 = .ok (.invokevirtual 93, 3) := by decide +kernel
theorem dX4_improve_5 : decode cX4_improve 5 = .ok (.ifCond .eq 14, 3) := by decide +kernel
theorem dX4_improve_8 : decode cX4_improve 8 = .ok (.iload_n 2, 1) := by decide +kernel
theorem dX4_improve_9 : decode cX4_improve 9 = .ok (.iconst 1, 1) := by decide +kernel
theorem dX4_improve_10 : decode cX4_improve 10 = .ok (.if_icmp .lt 9, 3) := by decide +kernel
theorem dX4_improve_13 : decode cX4_improve 13 = .ok (.iload_n 2, 1) := by decide +kernel
theorem dX4_improve_14 : decode cX4_improve 14 = .ok (.bipush 20, 2) := by decide +kernel
theorem dX4_improve_16 : decode cX4_improve 16 = .ok (.if_icmp .le 10, 3) := by decide +kernel
theorem dX4_improve_19 : decode cX4_improve 19 = .ok (.aload_n 0, 1) := by decide +kernel
theorem dX4_improve_20 : decode cX4_improve 20 = .ok (.ldc 56, 2) := by decide +kernel
theorem dX4_improve_22 : decode cX4_improve 22 = .ok (.invokevirtual 57, 3) := by decide +kernel
theorem dX4_improve_25 : decode cX4_improve 25 = .ok (.ireturn, 1) := by decide +kernel
theorem dX4_improve_26 : decode cX4_improve 26 = .ok (.aload_n 0, 1) := by decide +kernel
theorem dX4_improve_27 : decode cX4_improve 27 = .ok (.getfield 10, 3) := by decide +kernel
theorem dX4_improve_30 : decode cX4_improve 30 = .ok (.getfield 108, 3) := by decide +kernel
theorem dX4_improve_33 : decode cX4_improve 33 = .ok (.iload_n 1, 1) := by decide +kernel
theorem dX4_improve_34 : decode cX4_improve 34 = .ok (.iaload, 1) := by decide +kernel
theorem dX4_improve_35 : decode cX4_improve 35 = .ok (.iconst (-1), 1) := by decide +kernel
theorem dX4_improve_36 : decode cX4_improve 36 = .ok (.if_icmp .ne 10, 3) := by decide +kernel
theorem dX4_improve_39 : decode cX4_improve 39 = .ok (.aload_n 0, 1) := by decide +kernel
theorem dX4_improve_40 : decode cX4_improve 40 = .ok (.ldc 135, 2) := by decide +kernel
theorem dX4_improve_42 : decode cX4_improve 42 = .ok (.invokevirtual 57, 3) := by decide +kernel
theorem dX4_improve_45 : decode cX4_improve 45 = .ok (.ireturn, 1) := by decide +kernel
theorem dX4_improve_46 : decode cX4_improve 46 = .ok (.aload_n 0, 1) := by decide +kernel
theorem dX4_improve_47 : decode cX4_improve 47 = .ok (.getfield 10, 3) := by decide +kernel
theorem dX4_improve_50 : decode cX4_improve 50 = .ok (.iload_n 1, 1) := by decide +kernel
theorem dX4_improve_51 : decode cX4_improve 51 = .ok (.iload_n 2, 1) := by decide +kernel
theorem dX4_improve_52 : decode cX4_improve 52 = .ok (.invokevirtual 143, 3) := by decide +kernel
theorem dX4_improve_55 : decode cX4_improve 55 = .ok (.aload_n 0, 1) := by decide +kernel
theorem dX4_improve_56 : decode cX4_improve 56 = .ok (.getfield 10, 3) := by decide +kernel
theorem dX4_improve_59 : decode cX4_improve 59 = .ok (.getfield 108, 3) := by decide +kernel
theorem dX4_improve_62 : decode cX4_improve 62 = .ok (.iload_n 1, 1) := by decide +kernel
theorem dX4_improve_63 : decode cX4_improve 63 = .ok (.iaload, 1) := by decide +kernel
theorem dX4_improve_64 : decode cX4_improve 64 = .ok (.ireturn, 1) := by decide +kernel
theorem dX4_comesTrue_0 : decode cX4_comesTrue 0 = .ok (.iload_n 1, 1) := by decide +kernel
theorem dX4_comesTrue_1 : decode cX4_comesTrue 1 = .ok (.invokestatic 81, 3) := by decide +kernel
theorem dX4_comesTrue_4 : decode cX4_comesTrue 4 = .ok (.ifCond .ne 10, 3) := by decide +kernel
theorem dX4_comesTrue_7 : decode cX4_comesTrue 7 = .ok (.aload_n 0, 1) := by decide +kernel
theorem dX4_comesTrue_8 : decode cX4_comesTrue 8 = .ok (.ldc 56, 2) := by decide +kernel
theorem dX4_comesTrue_10 : decode cX4_comesTrue 10 = .ok (.invokevirtual 57, 3) := by decide +kernel
theorem dX4_comesTrue_13 : decode cX4_comesTrue 13 = .ok (.ireturn, 1) := by decide +kernel
theorem dX4_comesTrue_14 : decode cX4_comesTrue 14 = .ok (.aload_n 0, 1) := by decide +kernel
theorem dX4_comesTrue_15 : decode cX4_comesTrue 15 = .ok (.getfield 10, 3) := by decide +kernel
theorem dX4_comesTrue_18 : decode cX4_comesTrue 18 = .ok (.iload_n 1, 1) := by decide +kernel
theorem dX4_comesTrue_19 : decode cX4_comesTrue 19 = .ok (.invokevirtual 146, 3) := by decide +kernel
theorem dX4_comesTrue_22 : decode cX4_comesTrue 22 = .ok (.ireturn, 1) := by decide +kernel
theorem dX4_forget_0 : decode cX4_forget 0 = .ok (.iload_n 1, 1) := by decide +kernel
theorem dX4_forget_1 : decode cX4_forget 1 = .ok (.invokestatic 81, 3) := by decide +kernel
theorem dX4_forget_4 : decode cX4_forget 4 = .ok (.ifCond .ne 10, 3) := by decide +kernel
theorem dX4_forget_7 : decode cX4_forget 7 = .ok (.aload_n 0, 1) := by decide +kernel
theorem dX4_forget_8 : decode cX4_forget 8 = .ok (.ldc 56, 2) := by decide +kernel
theorem dX4_forget_10 : decode cX4_forget 10 = .ok (.invokevirtual 57, 3) := by decide +kernel
theorem dX4_forget_13 : decode cX4_forget 13 = .ok (.ireturn, 1) := by decide +kernel
theorem dX4_forget_14 : decode cX4_forget 14 = .ok (.aload_n 0, 1) := by decide +kernel
theorem dX4_forget_15 : decode cX4_forget 15 = .ok (.getfield 10, 3) := by decide +kernel
theorem dX4_forget_18 : decode cX4_forget 18 = .ok (.iload_n 1, 1) := by decide +kernel
theorem dX4_forget_19 : decode cX4_forget 19 = .ok (.invokevirtual 132, 3) := by decide +kernel
theorem dX4_forget_22 : decode cX4_forget 22 = .ok (.ifCond .eq 7, 3) := by decide +kernel
theorem dX4_forget_25 : decode cX4_forget 25 = .ok (.iconst 1, 1) := by decide +kernel
theorem dX4_forget_26 : decode cX4_forget 26 = .ok (.goto 4, 3) := by decide +kernel
theorem dX4_forget_29 : decode cX4_forget 29 = .ok (.iconst 0, 1) := by decide +kernel
theorem dX4_forget_30 : decode cX4_forget 30 = .ok (.istore_n 2, 1) := by decide +kernel
theorem dX4_forget_31 : decode cX4_forget 31 = .ok (.aload_n 0, 1) := by decide +kernel
theorem dX4_forget_32 : decode cX4_forget 32 = .ok (.getfield 10, 3) := by decide +kernel
theorem dX4_forget_35 : decode cX4_forget 35 = .ok (.dup, 1) := by decide +kernel
theorem dX4_forget_36 : decode cX4_forget 36 = .ok (.getfield 149, 3) := by decide +kernel
theorem dX4_forget_39 : decode cX4_forget 39 = .ok (.iconst 1, 1) := by decide +kernel
theorem dX4_forget_40 : decode cX4_forget 40 = .ok (.iload_n 1, 1) := by decide +kernel
theorem dX4_forget_41 : decode cX4_forget 41 = .ok (.ishl, 1) := by decide +kernel
theorem dX4_forget_42 : decode cX4_forget 42 = .ok (.iconst (-1), 1) := by decide +kernel
theorem dX4_forget_43 : decode cX4_forget 43 = .ok (.ixor, 1) := by decide +kernel
theorem dX4_forget_44 : decode cX4_forget 44 = .ok (.iand, 1) := by decide +kernel
theorem dX4_forget_45 : decode cX4_forget 45 = .ok (.putfield 149, 3) := by decide +kernel
theorem dX4_forget_48 : decode cX4_forget 48 = .ok (.iload_n 2, 1) := by decide +kernel
theorem dX4_forget_49 : decode cX4_forget 49 = .ok (.ireturn, 1) := by decide +kernel
theorem dX4_days_0 : decode cX4_days 0 = .ok (.iload_n 1, 1) := by decide +kernel
theorem dX4_days_1 : decode cX4_days 1 = .ok (.iconst 1, 1) := by decide +kernel
theorem dX4_days_2 : decode cX4_days 2 = .ok (.if_icmp .lt 9, 3) := by decide +kernel
theorem dX4_days_5 : decode cX4_days 5 = .ok (.iload_n 1, 1) := by decide +kernel
theorem dX4_days_6 : decode cX4_days 6 = .ok (.bipush 60, 2) := by decide +kernel
theorem dX4_days_8 : decode cX4_days 8 = .ok (.if_icmp .le 10, 3) := by decide +kernel
theorem dX4_days_11 : decode cX4_days 11 = .ok (.aload_n 0, 1) := by decide +kernel
theorem dX4_days_12 : decode cX4_days 12 = .ok (.ldc 56, 2) := by decide +kernel
theorem dX4_days_14 : decode cX4_days 14 = .ok (.invokevirtual 57, 3) := by decide +kernel
theorem dX4_days_17 : decode cX4_days 17 = .ok (.ireturn, 1) := by decide +kernel
theorem dX4_days_18 : decode cX4_days 18 = .ok (.aload_n 0, 1) := by decide +kernel
theorem dX4_days_19 : decode cX4_days 19 = .ok (.getfield 10, 3) := by decide +kernel
theorem dX4_days_22 : decode cX4_days 22 = .ok (.getfield 153, 3) := by decide +kernel
theorem dX4_days_25 : decode cX4_days 25 = .ok (.iload_n 1, 1) := by decide +kernel
theorem dX4_days_26 : decode cX4_days 26 = .ok (.iadd, 1) := by decide +kernel
theorem dX4_days_27 : decode cX4_days 27 = .ok (.sipush 9999, 3) := by decide +kernel
theorem dX4_days_30 : decode cX4_days 30 = .ok (.if_icmp .le 10, 3) := by decide +kernel
theorem dX4_days_33 : decode cX4_days 33 = .ok (.aload_n 0, 1) := by decide +kernel
theorem dX4_days_34 : decode cX4_days 34 = .ok (.ldc 135, 2) := by decide +kernel
theorem dX4_days_36 : decode cX4_days 36 = .ok (.invokevirtual 57, 3) := by decide +kernel
theorem dX4_days_39 : decode cX4_days 39 = .ok (.ireturn, 1) := by decide +kernel
theorem dX4_days_40 : decode cX4_days 40 = .ok (.aload_n 0, 1) := by decide +kernel
theorem dX4_days_41 : decode cX4_days 41 = .ok (.getfield 10, 3) := by decide +kernel
theorem dX4_days_44 : decode cX4_days 44 = .ok (.iload_n 1, 1) := by decide +kernel
theorem dX4_days_45 : decode cX4_days 45 = .ok (.invokevirtual 156, 3) := by decide +kernel
theorem dX4_days_48 : decode cX4_days 48 = .ok (.aload_n 0, 1) := by decide +kernel
theorem dX4_days_49 : decode cX4_days 49 = .ok (.getfield 10, 3) := by decide +kernel
theorem dX4_days_52 : decode cX4_days 52 = .ok (.getfield 160, 3) := by decide +kernel
theorem dX4_days_55 : decode cX4_days 55 = .ok (.ireturn, 1) := by decide +kernel
theorem dX4_now_0 : decode cX4_now 0 = .ok (.iload_n 1, 1) := by decide +kernel
theorem dX4_now_1 : decode cX4_now 1 = .ok (.tableswitch 103 0 6 #[43, 51, 59, 68, 76, 87, 95], 43) := by decide +kernel
theorem dX4_now_44 : decode cX4_now 44 = .ok (.aload_n 0, 1) := by decide +kernel
theorem dX4_now_45 : decode cX4_now 45 = .ok (.getfield 10, 3) := by decide +kernel
theorem dX4_now_48 : decode cX4_now 48 = .ok (.getfield 153, 3) := by decide +kernel
theorem dX4_now_51 : decode cX4_now 51 = .ok (.ireturn, 1) := by decide +kernel
theorem dX4_now_52 : decode cX4_now 52 = .ok (.aload_n 0, 1) := by decide +kernel
theorem dX4_now_53 : decode cX4_now 53 = .ok (.getfield 10, 3) := by decide +kernel
theorem dX4_now_56 : decode cX4_now 56 = .ok (.getfield 149, 3) := by decide +kernel
theorem dX4_now_59 : decode cX4_now 59 = .ok (.ireturn, 1) := by decide +kernel
theorem dX4_now_60 : decode cX4_now 60 = .ok (.aload_n 0, 1) := by decide +kernel
theorem dX4_now_61 : decode cX4_now 61 = .ok (.getfield 10, 3) := by decide +kernel
theorem dX4_now_64 : decode cX4_now 64 = .ok (.iconst (-1), 1) := by decide +kernel
theorem dX4_now_65 : decode cX4_now 65 = .ok (.invokevirtual 69, 3) := by decide +kernel
theorem dX4_now_68 : decode cX4_now 68 = .ok (.ireturn, 1) := by decide +kernel
theorem dX4_now_69 : decode cX4_now 69 = .ok (.aload_n 0, 1) := by decide +kernel
theorem dX4_now_70 : decode cX4_now 70 = .ok (.getfield 10, 3) := by decide +kernel
theorem dX4_now_73 : decode cX4_now 73 = .ok (.invokevirtual 163, 3) := by decide +kernel
theorem dX4_now_76 : decode cX4_now 76 = .ok (.ireturn, 1) := by decide +kernel
theorem dX4_now_77 : decode cX4_now 77 = .ok (.aload_n 0, 1) := by decide +kernel
theorem dX4_now_78 : decode cX4_now 78 = .ok (.getfield 10, 3) := by decide +kernel
theorem dX4_now_81 : decode cX4_now 81 = .ok (.getfield 63, 3) := by decide +kernel
theorem dX4_now_84 : decode cX4_now 84 = .ok (.invokestatic 167, 3) := by decide +kernel
theorem dX4_now_87 : decode cX4_now 87 = .ok (.ireturn, 1) := by decide +kernel
theorem dX4_now_88 : decode cX4_now 88 = .ok (.aload_n 0, 1) := by decide +kernel
theorem dX4_now_89 : decode cX4_now 89 = .ok (.getfield 10, 3) := by decide +kernel
theorem dX4_now_92 : decode cX4_now 92 = .ok (.invokevirtual 171, 3) := by decide +kernel
theorem dX4_now_95 : decode cX4_now 95 = .ok (.ireturn, 1) := by decide +kernel
theorem dX4_now_96 : decode cX4_now 96 = .ok (.aload_n 0, 1) := by decide +kernel
theorem dX4_now_97 : decode cX4_now 97 = .ok (.getfield 10, 3) := by decide +kernel
theorem dX4_now_100 : decode cX4_now 100 = .ok (.invokevirtual 174, 3) := by decide +kernel
theorem dX4_now_103 : decode cX4_now 103 = .ok (.ireturn, 1) := by decide +kernel
theorem dX4_now_104 : decode cX4_now 104 = .ok (.aload_n 0, 1) := by decide +kernel
theorem dX4_now_105 : decode cX4_now 105 = .ok (.ldc 56, 2) := by decide +kernel
theorem dX4_now_107 : decode cX4_now 107 = .ok (.invokevirtual 57, 3) := by decide +kernel
theorem dX4_now_110 : decode cX4_now 110 = .ok (.ireturn, 1) := by decide +kernel
theorem dX4_on_0 : decode cX4_on 0 = .ok (.aload_n 0, 1) := by decide +kernel
theorem dX4_on_1 : decode cX4_on 1 = .ok (.iload_n 1, 1) := by decide +kernel
theorem dX4_on_2 : decode cX4_on 2 = .ok (.invokevirtual 93, 3) := by decide +kernel
theorem dX4_on_5 : decode cX4_on 5 = .ok (.ifCond .eq 20, 3) := by decide +kernel
theorem dX4_on_8 : decode cX4_on 8 = .ok (.iload_n 2, 1) := by decide +kernel
theorem dX4_on_9 : decode cX4_on 9 = .ok (.bipush 60, 2) := by decide +kernel
theorem dX4_on_11 : decode cX4_on 11 = .ok (.invokestatic 52, 3) := by decide +kernel
theorem dX4_on_14 : decode cX4_on 14 = .ok (.ifCond .eq 11, 3) := by decide +kernel
theorem dX4_on_17 : decode cX4_on 17 = .ok (.iload_n 3, 1) := by decide +kernel
theorem dX4_on_18 : decode cX4_on 18 = .ok (.iconst 1, 1) := by decide +kernel
theorem dX4_on_19 : decode cX4_on 19 = .ok (.invokestatic 52, 3) := by decide +kernel
theorem dX4_on_22 : decode cX4_on 22 = .ok (.ifCond .ne 10, 3) := by decide +kernel
theorem dX4_on_25 : decode cX4_on 25 = .ok (.aload_n 0, 1) := by decide +kernel
theorem dX4_on_26 : decode cX4_on 26 = .ok (.ldc 56, 2) := by decide +kernel
theorem dX4_on_28 : decode cX4_on 28 = .ok (.invokevirtual 57, 3) := by decide +kernel
theorem dX4_on_31 : decode cX4_on 31 = .ok (.ireturn, 1) := by decide +kernel
theorem dX4_on_32 : decode cX4_on 32 = .ok (.aload_n 0, 1) := by decide +kernel
theorem dX4_on_33 : decode cX4_on 33 = .ok (.getfield 16, 3) := by decide +kernel
theorem dX4_on_36 : decode cX4_on 36 = .ok (.aload_n 0, 1) := by decide +kernel
theorem dX4_on_37 : decode cX4_on 37 = .ok (.getfield 10, 3) := by decide +kernel
theorem dX4_on_40 : decode cX4_on 40 = .ok (.invokevirtual 177, 3) := by decide +kernel
theorem dX4_on_43 : decode cX4_on 43 = .ok (.aload_n 0, 1) := by decide +kernel
theorem dX4_on_44 : decode cX4_on 44 = .ok (.getfield 16, 3) := by decide +kernel
theorem dX4_on_47 : decode cX4_on 47 = .ok (.iload_n 2, 1) := by decide +kernel
theorem dX4_on_48 : decode cX4_on 48 = .ok (.invokevirtual 156, 3) := by decide +kernel
theorem dX4_on_51 : decode cX4_on 51 = .ok (.iload_n 3, 1) := by decide +kernel
theorem dX4_on_52 : decode cX4_on 52 = .ok (.ifCond .ne 15, 3) := by decide +kernel
theorem dX4_on_55 : decode cX4_on 55 = .ok (.aload_n 0, 1) := by decide +kernel
theorem dX4_on_56 : decode cX4_on 56 = .ok (.getfield 16, 3) := by decide +kernel
theorem dX4_on_59 : decode cX4_on 59 = .ok (.getfield 108, 3) := by decide +kernel
theorem dX4_on_62 : decode cX4_on 62 = .ok (.iload_n 1, 1) := by decide +kernel
theorem dX4_on_63 : decode cX4_on 63 = .ok (.iaload, 1) := by decide +kernel
theorem dX4_on_64 : decode cX4_on 64 = .ok (.goto 12, 3) := by decide +kernel
theorem dX4_on_67 : decode cX4_on 67 = .ok (.aload_n 0, 1) := by decide +kernel
theorem dX4_on_68 : decode cX4_on 68 = .ok (.getfield 16, 3) := by decide +kernel
theorem dX4_on_71 : decode cX4_on 71 = .ok (.getfield 102, 3) := by decide +kernel
theorem dX4_on_74 : decode cX4_on 74 = .ok (.iload_n 1, 1) := by decide +kernel
theorem dX4_on_75 : decode cX4_on 75 = .ok (.iaload, 1) := by decide +kernel
theorem dX4_on_76 : decode cX4_on 76 = .ok (.ireturn, 1) := by decide +kernel
theorem dX4_larder_0 : decode cX4_larder 0 = .ok (.iload_n 1, 1) := by decide +kernel
theorem dX4_larder_1 : decode cX4_larder 1 = .ok (.invokestatic 44, 3) := by decide +kernel
theorem dX4_larder_4 : decode cX4_larder 4 = .ok (.ifCond .eq 12, 3) := by decide +kernel
theorem dX4_larder_7 : decode cX4_larder 7 = .ok (.iload_n 2, 1) := by decide +kernel
theorem dX4_larder_8 : decode cX4_larder 8 = .ok (.bipush 60, 2) := by decide +kernel
theorem dX4_larder_10 : decode cX4_larder 10 = .ok (.invokestatic 52, 3) := by decide +kernel
theorem dX4_larder_13 : decode cX4_larder 13 = .ok (.ifCond .ne 10, 3) := by decide +kernel
theorem dX4_larder_16 : decode cX4_larder 16 = .ok (.aload_n 0, 1) := by decide +kernel
theorem dX4_larder_17 : decode cX4_larder 17 = .ok (.ldc 56, 2) := by decide +kernel
theorem dX4_larder_19 : decode cX4_larder 19 = .ok (.invokevirtual 57, 3) := by decide +kernel
theorem dX4_larder_22 : decode cX4_larder 22 = .ok (.ireturn, 1) := by decide +kernel
theorem dX4_larder_23 : decode cX4_larder 23 = .ok (.aload_n 0, 1) := by decide +kernel
theorem dX4_larder_24 : decode cX4_larder 24 = .ok (.getfield 16, 3) := by decide +kernel
theorem dX4_larder_27 : decode cX4_larder 27 = .ok (.aload_n 0, 1) := by decide +kernel
theorem dX4_larder_28 : decode cX4_larder 28 = .ok (.getfield 10, 3) := by decide +kernel
theorem dX4_larder_31 : decode cX4_larder 31 = .ok (.invokevirtual 177, 3) := by decide +kernel
theorem dX4_larder_34 : decode cX4_larder 34 = .ok (.aload_n 0, 1) := by decide +kernel
theorem dX4_larder_35 : decode cX4_larder 35 = .ok (.getfield 16, 3) := by decide +kernel
theorem dX4_larder_38 : decode cX4_larder 38 = .ok (.iload_n 2, 1) := by decide +kernel
theorem dX4_larder_39 : decode cX4_larder 39 = .ok (.invokevirtual 156, 3) := by decide +kernel
theorem dX4_larder_42 : decode cX4_larder 42 = .ok (.aload_n 0, 1) := by decide +kernel
theorem dX4_larder_43 : decode cX4_larder 43 = .ok (.getfield 16, 3) := by decide +kernel
theorem dX4_larder_46 : decode cX4_larder 46 = .ok (.getfield 63, 3) := by decide +kernel
theorem dX4_larder_49 : decode cX4_larder 49 = .ok (.iload_n 1, 1) := by decide +kernel
theorem dX4_larder_50 : decode cX4_larder 50 = .ok (.iaload, 1) := by decide +kernel
theorem dX4_larder_51 : decode cX4_larder 51 = .ok (.ireturn, 1) := by decide +kernel
theorem dX4_empty_0 : decode cX4_empty 0 = .ok (.iload_n 1, 1) := by decide +kernel
theorem dX4_empty_1 : decode cX4_empty 1 = .ok (.invokestatic 44, 3) := by decide +kernel
theorem dX4_empty_4 : decode cX4_empty 4 = .ok (.ifCond .ne 10, 3) := by decide +kernel
theorem dX4_empty_7 : decode cX4_empty 7 = .ok (.aload_n 0, 1) := by decide +kernel
theorem dX4_empty_8 : decode cX4_empty 8 = .ok (.ldc 56, 2) := by decide +kernel
theorem dX4_empty_10 : decode cX4_empty 10 = .ok (.invokevirtual 57, 3) := by decide +kernel
theorem dX4_empty_13 : decode cX4_empty 13 = .ok (.ireturn, 1) := by decide +kernel
theorem dX4_empty_14 : decode cX4_empty 14 = .ok (.aload_n 0, 1) := by decide +kernel
theorem dX4_empty_15 : decode cX4_empty 15 = .ok (.getfield 16, 3) := by decide +kernel
theorem dX4_empty_18 : decode cX4_empty 18 = .ok (.aload_n 0, 1) := by decide +kernel
theorem dX4_empty_19 : decode cX4_empty 19 = .ok (.getfield 10, 3) := by decide +kernel
theorem dX4_empty_22 : decode cX4_empty 22 = .ok (.invokevirtual 177, 3) := by decide +kernel
theorem dX4_empty_25 : decode cX4_empty 25 = .ok (.iconst 0, 1) := by decide +kernel
theorem dX4_empty_26 : decode cX4_empty 26 = .ok (.istore_n 2, 1) := by decide +kernel
theorem dX4_empty_27 : decode cX4_empty 27 = .ok (.iload_n 2, 1) := by decide +kernel
theorem dX4_empty_28 : decode cX4_empty 28 = .ok (.bipush 60, 2) := by decide +kernel
theorem dX4_empty_30 : decode cX4_empty 30 = .ok (.if_icmp .gt 30, 3) := by decide +kernel
theorem dX4_empty_33 : decode cX4_empty 33 = .ok (.aload_n 0, 1) := by decide +kernel
theorem dX4_empty_34 : decode cX4_empty 34 = .ok (.getfield 16, 3) := by decide +kernel
theorem dX4_empty_37 : decode cX4_empty 37 = .ok (.getfield 63, 3) := by decide +kernel
theorem dX4_empty_40 : decode cX4_empty 40 = .ok (.iload_n 1, 1) := by decide +kernel
theorem dX4_empty_41 : decode cX4_empty 41 = .ok (.iaload, 1) := by decide +kernel
theorem dX4_empty_42 : decode cX4_empty 42 = .ok (.ifCond .ne 5, 3) := by decide +kernel
theorem dX4_empty_45 : decode cX4_empty 45 = .ok (.iload_n 2, 1) := by decide +kernel
theorem dX4_empty_46 : decode cX4_empty 46 = .ok (.ireturn, 1) := by decide +kernel
theorem dX4_empty_47 : decode cX4_empty 47 = .ok (.aload_n 0, 1) := by decide +kernel
theorem dX4_empty_48 : decode cX4_empty 48 = .ok (.getfield 16, 3) := by decide +kernel
theorem dX4_empty_51 : decode cX4_empty 51 = .ok (.invokevirtual 181, 3) := by decide +kernel
theorem dX4_empty_54 : decode cX4_empty 54 = .ok (.iinc 2 1, 3) := by decide +kernel
theorem dX4_empty_57 : decode cX4_empty 57 = .ok (.goto (-30), 3) := by decide +kernel
theorem dX4_empty_60 : decode cX4_empty 60 = .ok (.aload_n 0, 1) := by decide +kernel
theorem dX4_empty_61 : decode cX4_empty 61 = .ok (.ldc 184, 2) := by decide +kernel
theorem dX4_empty_63 : decode cX4_empty 63 = .ok (.invokevirtual 57, 3) := by decide +kernel
theorem dX4_empty_66 : decode cX4_empty 66 = .ok (.ireturn, 1) := by decide +kernel
theorem dX4_many_0 : decode cX4_many 0 = .ok (.iload_n 1, 1) := by decide +kernel
theorem dX4_many_1 : decode cX4_many 1 = .ok (.bipush 60, 2) := by decide +kernel
theorem dX4_many_3 : decode cX4_many 3 = .ok (.invokestatic 52, 3) := by decide +kernel
theorem dX4_many_6 : decode cX4_many 6 = .ok (.ifCond .ne 10, 3) := by decide +kernel
theorem dX4_many_9 : decode cX4_many 9 = .ok (.aload_n 0, 1) := by decide +kernel
theorem dX4_many_10 : decode cX4_many 10 = .ok (.ldc 56, 2) := by decide +kernel
theorem dX4_many_12 : decode cX4_many 12 = .ok (.invokevirtual 57, 3) := by decide +kernel
theorem dX4_many_15 : decode cX4_many 15 = .ok (.ireturn, 1) := by decide +kernel
theorem dX4_many_16 : decode cX4_many 16 = .ok (.aload_n 0, 1) := by decide +kernel
theorem dX4_many_17 : decode cX4_many 17 = .ok (.getfield 16, 3) := by decide +kernel
theorem dX4_many_20 : decode cX4_many 20 = .ok (.aload_n 0, 1) := by decide +kernel
theorem dX4_many_21 : decode cX4_many 21 = .ok (.getfield 10, 3) := by decide +kernel
theorem dX4_many_24 : decode cX4_many 24 = .ok (.invokevirtual 177, 3) := by decide +kernel
theorem dX4_many_27 : decode cX4_many 27 = .ok (.aload_n 0, 1) := by decide +kernel
theorem dX4_many_28 : decode cX4_many 28 = .ok (.getfield 16, 3) := by decide +kernel
theorem dX4_many_31 : decode cX4_many 31 = .ok (.iload_n 1, 1) := by decide +kernel
theorem dX4_many_32 : decode cX4_many 32 = .ok (.invokevirtual 156, 3) := by decide +kernel
theorem dX4_many_35 : decode cX4_many 35 = .ok (.aload_n 0, 1) := by decide +kernel
theorem dX4_many_36 : decode cX4_many 36 = .ok (.getfield 16, 3) := by decide +kernel
theorem dX4_many_39 : decode cX4_many 39 = .ok (.getfield 160, 3) := by decide +kernel
theorem dX4_many_42 : decode cX4_many 42 = .ok (.ireturn, 1) := by decide +kernel
theorem dX4_out_0 : decode cX4_out 0 = .ok (.aload_n 0, 1) := by decide +kernel
theorem dX4_out_1 : decode cX4_out 1 = .ok (.iload_n 1, 1) := by decide +kernel
theorem dX4_out_2 : decode cX4_out 2 = .ok (.invokevirtual 93, 3) := by decide +kernel
theorem dX4_out_5 : decode cX4_out 5 = .ok (.ifCond .ne 10, 3) := by decide +kernel
theorem dX4_out_8 : decode cX4_out 8 = .ok (.aload_n 0, 1) := by decide +kernel
theorem dX4_out_9 : decode cX4_out 9 = .ok (.ldc 56, 2) := by decide +kernel
theorem dX4_out_11 : decode cX4_out 11 = .ok (.invokevirtual 57, 3) := by decide +kernel
theorem dX4_out_14 : decode cX4_out 14 = .ok (.ireturn, 1) := by decide +kernel
theorem dX4_out_15 : decode cX4_out 15 = .ok (.aload_n 0, 1) := by decide +kernel
theorem dX4_out_16 : decode cX4_out 16 = .ok (.getfield 16, 3) := by decide +kernel
theorem dX4_out_19 : decode cX4_out 19 = .ok (.aload_n 0, 1) := by decide +kernel
theorem dX4_out_20 : decode cX4_out 20 = .ok (.getfield 10, 3) := by decide +kernel
theorem dX4_out_23 : decode cX4_out 23 = .ok (.invokevirtual 177, 3) := by decide +kernel
theorem dX4_out_26 : decode cX4_out 26 = .ok (.iconst 0, 1) := by decide +kernel
theorem dX4_out_27 : decode cX4_out 27 = .ok (.istore_n 2, 1) := by decide +kernel
theorem dX4_out_28 : decode cX4_out 28 = .ok (.iload_n 2, 1) := by decide +kernel
theorem dX4_out_29 : decode cX4_out 29 = .ok (.bipush 60, 2) := by decide +kernel
theorem dX4_out_31 : decode cX4_out 31 = .ok (.if_icmp .gt 31, 3) := by decide +kernel
theorem dX4_out_34 : decode cX4_out 34 = .ok (.aload_n 0, 1) := by decide +kernel
theorem dX4_out_35 : decode cX4_out 35 = .ok (.getfield 16, 3) := by decide +kernel
theorem dX4_out_38 : decode cX4_out 38 = .ok (.getfield 108, 3) := by decide +kernel
theorem dX4_out_41 : decode cX4_out 41 = .ok (.iload_n 1, 1) := by decide +kernel
theorem dX4_out_42 : decode cX4_out 42 = .ok (.iaload, 1) := by decide +kernel
theorem dX4_out_43 : decode cX4_out 43 = .ok (.iconst (-1), 1) := by decide +kernel
theorem dX4_out_44 : decode cX4_out 44 = .ok (.if_icmp .ne 5, 3) := by decide +kernel
theorem dX4_out_47 : decode cX4_out 47 = .ok (.iload_n 2, 1) := by decide +kernel
theorem dX4_out_48 : decode cX4_out 48 = .ok (.ireturn, 1) := by decide +kernel
theorem dX4_out_49 : decode cX4_out 49 = .ok (.aload_n 0, 1) := by decide +kernel
theorem dX4_out_50 : decode cX4_out 50 = .ok (.getfield 16, 3) := by decide +kernel
theorem dX4_out_53 : decode cX4_out 53 = .ok (.invokevirtual 181, 3) := by decide +kernel
theorem dX4_out_56 : decode cX4_out 56 = .ok (.iinc 2 1, 3) := by decide +kernel
theorem dX4_out_59 : decode cX4_out 59 = .ok (.goto (-31), 3) := by decide +kernel
theorem dX4_out_62 : decode cX4_out 62 = .ok (.aload_n 0, 1) := by decide +kernel
theorem dX4_out_63 : decode cX4_out 63 = .ok (.ldc 184, 2) := by decide +kernel
theorem dX4_out_65 : decode cX4_out 65 = .ok (.invokevirtual 57, 3) := by decide +kernel
theorem dX4_out_68 : decode cX4_out 68 = .ok (.ireturn, 1) := by decide +kernel
theorem dX4_fewest_0 : decode cX4_fewest 0 = .ok (.aload_n 0, 1) := by decide +kernel
theorem dX4_fewest_1 : decode cX4_fewest 1 = .ok (.iload_n 1, 1) := by decide +kernel
theorem dX4_fewest_2 : decode cX4_fewest 2 = .ok (.invokevirtual 93, 3) := by decide +kernel
theorem dX4_fewest_5 : decode cX4_fewest 5 = .ok (.ifCond .eq 10, 3) := by decide +kernel
theorem dX4_fewest_8 : decode cX4_fewest 8 = .ok (.iload_n 2, 1) := by decide +kernel
theorem dX4_fewest_9 : decode cX4_fewest 9 = .ok (.invokestatic 44, 3) := by decide +kernel
theorem dX4_fewest_12 : decode cX4_fewest 12 = .ok (.ifCond .ne 10, 3) := by decide +kernel
theorem dX4_fewest_15 : decode cX4_fewest 15 = .ok (.aload_n 0, 1) := by decide +kernel
theorem dX4_fewest_16 : decode cX4_fewest 16 = .ok (.ldc 56, 2) := by decide +kernel
theorem dX4_fewest_18 : decode cX4_fewest 18 = .ok (.invokevirtual 57, 3) := by decide +kernel
theorem dX4_fewest_21 : decode cX4_fewest 21 = .ok (.ireturn, 1) := by decide +kernel
theorem dX4_fewest_22 : decode cX4_fewest 22 = .ok (.aload_n 0, 1) := by decide +kernel
theorem dX4_fewest_23 : decode cX4_fewest 23 = .ok (.getfield 10, 3) := by decide +kernel
theorem dX4_fewest_26 : decode cX4_fewest 26 = .ok (.getfield 108, 3) := by decide +kernel
theorem dX4_fewest_29 : decode cX4_fewest 29 = .ok (.iload_n 1, 1) := by decide +kernel
theorem dX4_fewest_30 : decode cX4_fewest 30 = .ok (.iaload, 1) := by decide +kernel
theorem dX4_fewest_31 : decode cX4_fewest 31 = .ok (.iconst (-1), 1) := by decide +kernel
theorem dX4_fewest_32 : decode cX4_fewest 32 = .ok (.if_icmp .ne 10, 3) := by decide +kernel
theorem dX4_fewest_35 : decode cX4_fewest 35 = .ok (.aload_n 0, 1) := by decide +kernel
theorem dX4_fewest_36 : decode cX4_fewest 36 = .ok (.ldc 135, 2) := by decide +kernel
theorem dX4_fewest_38 : decode cX4_fewest 38 = .ok (.invokevirtual 57, 3) := by decide +kernel
theorem dX4_fewest_41 : decode cX4_fewest 41 = .ok (.ireturn, 1) := by decide +kernel
theorem dX4_fewest_42 : decode cX4_fewest 42 = .ok (.aload_n 0, 1) := by decide +kernel
theorem dX4_fewest_43 : decode cX4_fewest 43 = .ok (.getfield 16, 3) := by decide +kernel
theorem dX4_fewest_46 : decode cX4_fewest 46 = .ok (.aload_n 0, 1) := by decide +kernel
theorem dX4_fewest_47 : decode cX4_fewest 47 = .ok (.getfield 10, 3) := by decide +kernel
theorem dX4_fewest_50 : decode cX4_fewest 50 = .ok (.invokevirtual 177, 3) := by decide +kernel
theorem dX4_fewest_53 : decode cX4_fewest 53 = .ok (.iconst 0, 1) := by decide +kernel
theorem dX4_fewest_54 : decode cX4_fewest 54 = .ok (.istore_n 3, 1) := by decide +kernel
theorem dX4_fewest_55 : decode cX4_fewest 55 = .ok (.iload_n 3, 1) := by decide +kernel
theorem dX4_fewest_56 : decode cX4_fewest 56 = .ok (.bipush 40, 2) := by decide +kernel
theorem dX4_fewest_58 : decode cX4_fewest 58 = .ok (.if_icmp .gt 33, 3) := by decide +kernel
theorem dX4_fewest_61 : decode cX4_fewest 61 = .ok (.aload_n 0, 1) := by decide +kernel
theorem dX4_fewest_62 : decode cX4_fewest 62 = .ok (.getfield 16, 3) := by decide +kernel
theorem dX4_fewest_65 : decode cX4_fewest 65 = .ok (.getfield 108, 3) := by decide +kernel
theorem dX4_fewest_68 : decode cX4_fewest 68 = .ok (.iload_n 1, 1) := by decide +kernel
theorem dX4_fewest_69 : decode cX4_fewest 69 = .ok (.iaload, 1) := by decide +kernel
theorem dX4_fewest_70 : decode cX4_fewest 70 = .ok (.iload_n 2, 1) := by decide +kernel
theorem dX4_fewest_71 : decode cX4_fewest 71 = .ok (.if_icmp .ne 5, 3) := by decide +kernel
theorem dX4_fewest_74 : decode cX4_fewest 74 = .ok (.iload_n 3, 1) := by decide +kernel
theorem dX4_fewest_75 : decode cX4_fewest 75 = .ok (.ireturn, 1) := by decide +kernel
theorem dX4_fewest_76 : decode cX4_fewest 76 = .ok (.aload_n 0, 1) := by decide +kernel
theorem dX4_fewest_77 : decode cX4_fewest 77 = .ok (.getfield 16, 3) := by decide +kernel
theorem dX4_fewest_80 : decode cX4_fewest 80 = .ok (.iload_n 1, 1) := by decide +kernel
theorem dX4_fewest_81 : decode cX4_fewest 81 = .ok (.iconst 1, 1) := by decide +kernel
theorem dX4_fewest_82 : decode cX4_fewest 82 = .ok (.invokevirtual 143, 3) := by decide +kernel
theorem dX4_fewest_85 : decode cX4_fewest 85 = .ok (.iinc 3 1, 3) := by decide +kernel
theorem dX4_fewest_88 : decode cX4_fewest 88 = .ok (.goto (-33), 3) := by decide +kernel
theorem dX4_fewest_91 : decode cX4_fewest 91 = .ok (.aload_n 0, 1) := by decide +kernel
theorem dX4_fewest_92 : decode cX4_fewest 92 = .ok (.ldc 184, 2) := by decide +kernel
theorem dX4_fewest_94 : decode cX4_fewest 94 = .ok (.invokevirtual 57, 3) := by decide +kernel
theorem dX4_fewest_97 : decode cX4_fewest 97 = .ok (.ireturn, 1) := by decide +kernel
theorem dX4_least_0 : decode cX4_least 0 = .ok (.aload_n 0, 1) := by decide +kernel
theorem dX4_least_1 : decode cX4_least 1 = .ok (.iload_n 1, 1) := by decide +kernel
theorem dX4_least_2 : decode cX4_least 2 = .ok (.invokevirtual 93, 3) := by decide +kernel
theorem dX4_least_5 : decode cX4_least 5 = .ok (.ifCond .ne 10, 3) := by decide +kernel
theorem dX4_least_8 : decode cX4_least 8 = .ok (.aload_n 0, 1) := by decide +kernel
theorem dX4_least_9 : decode cX4_least 9 = .ok (.ldc 56, 2) := by decide +kernel
theorem dX4_least_11 : decode cX4_least 11 = .ok (.invokevirtual 57, 3) := by decide +kernel
theorem dX4_least_14 : decode cX4_least 14 = .ok (.ireturn, 1) := by decide +kernel
theorem dX4_least_15 : decode cX4_least 15 = .ok (.aload_n 0, 1) := by decide +kernel
theorem dX4_least_16 : decode cX4_least 16 = .ok (.getfield 10, 3) := by decide +kernel
theorem dX4_least_19 : decode cX4_least 19 = .ok (.getfield 108, 3) := by decide +kernel
theorem dX4_least_22 : decode cX4_least 22 = .ok (.iload_n 1, 1) := by decide +kernel
theorem dX4_least_23 : decode cX4_least 23 = .ok (.iaload, 1) := by decide +kernel
theorem dX4_least_24 : decode cX4_least 24 = .ok (.iconst (-1), 1) := by decide +kernel
theorem dX4_least_25 : decode cX4_least 25 = .ok (.if_icmp .ne 10, 3) := by decide +kernel
theorem dX4_least_28 : decode cX4_least 28 = .ok (.aload_n 0, 1) := by decide +kernel
theorem dX4_least_29 : decode cX4_least 29 = .ok (.ldc 135, 2) := by decide +kernel
theorem dX4_least_31 : decode cX4_least 31 = .ok (.invokevirtual 57, 3) := by decide +kernel
theorem dX4_least_34 : decode cX4_least 34 = .ok (.ireturn, 1) := by decide +kernel
theorem dX4_least_35 : decode cX4_least 35 = .ok (.iconst 1, 1) := by decide +kernel
theorem dX4_least_36 : decode cX4_least 36 = .ok (.istore_n 2, 1) := by decide +kernel
theorem dX4_least_37 : decode cX4_least 37 = .ok (.iload_n 2, 1) := by decide +kernel
theorem dX4_least_38 : decode cX4_least 38 = .ok (.bipush 20, 2) := by decide +kernel
theorem dX4_least_40 : decode cX4_least 40 = .ok (.if_icmp .gt 52, 3) := by decide +kernel
theorem dX4_least_43 : decode cX4_least 43 = .ok (.aload_n 0, 1) := by decide +kernel
theorem dX4_least_44 : decode cX4_least 44 = .ok (.getfield 16, 3) := by decide +kernel
theorem dX4_least_47 : decode cX4_least 47 = .ok (.aload_n 0, 1) := by decide +kernel
theorem dX4_least_48 : decode cX4_least 48 = .ok (.getfield 10, 3) := by decide +kernel
theorem dX4_least_51 : decode cX4_least 51 = .ok (.invokevirtual 177, 3) := by decide +kernel
theorem dX4_least_54 : decode cX4_least 54 = .ok (.aload_n 0, 1) := by decide +kernel
theorem dX4_least_55 : decode cX4_least 55 = .ok (.getfield 16, 3) := by decide +kernel
theorem dX4_least_58 : decode cX4_least 58 = .ok (.iload_n 1, 1) := by decide +kernel
theorem dX4_least_59 : decode cX4_least 59 = .ok (.iload_n 2, 1) := by decide +kernel
theorem dX4_least_60 : decode cX4_least 60 = .ok (.invokevirtual 143, 3) := by decide +kernel
theorem dX4_least_63 : decode cX4_least 63 = .ok (.aload_n 0, 1) := by decide +kernel
theorem dX4_least_64 : decode cX4_least 64 = .ok (.getfield 16, 3) := by decide +kernel
theorem dX4_least_67 : decode cX4_least 67 = .ok (.getfield 108, 3) := by decide +kernel
theorem dX4_least_70 : decode cX4_least 70 = .ok (.iload_n 1, 1) := by decide +kernel
theorem dX4_least_71 : decode cX4_least 71 = .ok (.iaload, 1) := by decide +kernel
theorem dX4_least_72 : decode cX4_least 72 = .ok (.aload_n 0, 1) := by decide +kernel
theorem dX4_least_73 : decode cX4_least 73 = .ok (.getfield 10, 3) := by decide +kernel
theorem dX4_least_76 : decode cX4_least 76 = .ok (.getfield 108, 3) := by decide +kernel
theorem dX4_least_79 : decode cX4_least 79 = .ok (.iload_n 1, 1) := by decide +kernel
theorem dX4_least_80 : decode cX4_least 80 = .ok (.iaload, 1) := by decide +kernel
theorem dX4_least_81 : decode cX4_least 81 = .ok (.if_icmp .eq 5, 3) := by decide +kernel
theorem dX4_least_84 : decode cX4_least 84 = .ok (.iload_n 2, 1) := by decide +kernel
theorem dX4_least_85 : decode cX4_least 85 = .ok (.ireturn, 1) := by decide +kernel
theorem dX4_least_86 : decode cX4_least 86 = .ok (.iinc 2 1, 3) := by decide +kernel
theorem dX4_least_89 : decode cX4_least 89 = .ok (.goto (-52), 3) := by decide +kernel
theorem dX4_least_92 : decode cX4_least 92 = .ok (.aload_n 0, 1) := by decide +kernel
theorem dX4_least_93 : decode cX4_least 93 = .ok (.ldc 184, 2) := by decide +kernel
theorem dX4_least_95 : decode cX4_least 95 = .ok (.invokevirtual 57, 3) := by decide +kernel
theorem dX4_least_98 : decode cX4_least 98 = .ok (.ireturn, 1) := by decide +kernel
theorem dX4_best_0 : decode cX4_best 0 = .ok (.iload_n 1, 1) := by decide +kernel
theorem dX4_best_1 : decode cX4_best 1 = .ok (.bipush 20, 2) := by decide +kernel
theorem dX4_best_3 : decode cX4_best 3 = .ok (.invokestatic 52, 3) := by decide +kernel
theorem dX4_best_6 : decode cX4_best 6 = .ok (.ifCond .ne 10, 3) := by decide +kernel
theorem dX4_best_9 : decode cX4_best 9 = .ok (.aload_n 0, 1) := by decide +kernel
theorem dX4_best_10 : decode cX4_best 10 = .ok (.ldc 56, 2) := by decide +kernel
theorem dX4_best_12 : decode cX4_best 12 = .ok (.invokevirtual 57, 3) := by decide +kernel
theorem dX4_best_15 : decode cX4_best 15 = .ok (.ireturn, 1) := by decide +kernel
theorem dX4_best_16 : decode cX4_best 16 = .ok (.iconst 0, 1) := by decide +kernel
theorem dX4_best_17 : decode cX4_best 17 = .ok (.istore_n 2, 1) := by decide +kernel
theorem dX4_best_18 : decode cX4_best 18 = .ok (.iconst (-1), 1) := by decide +kernel
theorem dX4_best_19 : decode cX4_best 19 = .ok (.istore_n 3, 1) := by decide +kernel
theorem dX4_best_20 : decode cX4_best 20 = .ok (.iconst 0, 1) := by decide +kernel
theorem dX4_best_21 : decode cX4_best 21 = .ok (.istore 4, 2) := by decide +kernel
theorem dX4_best_23 : decode cX4_best 23 = .ok (.iload 4, 2) := by decide +kernel
theorem dX4_best_25 : decode cX4_best 25 = .ok (.bipush 16, 2) := by decide +kernel
theorem dX4_best_27 : decode cX4_best 27 = .ok (.if_icmp .ge 62, 3) := by decide +kernel
theorem dX4_best_30 : decode cX4_best 30 = .ok (.aload_n 0, 1) := by decide +kernel
theorem dX4_best_31 : decode cX4_best 31 = .ok (.getfield 16, 3) := by decide +kernel
theorem dX4_best_34 : decode cX4_best 34 = .ok (.aload_n 0, 1) := by decide +kernel
theorem dX4_best_35 : decode cX4_best 35 = .ok (.getfield 10, 3) := by decide +kernel
theorem dX4_best_38 : decode cX4_best 38 = .ok (.invokevirtual 177, 3) := by decide +kernel
theorem dX4_best_41 : decode cX4_best 41 = .ok (.aload_n 0, 1) := by decide +kernel
theorem dX4_best_42 : decode cX4_best 42 = .ok (.getfield 16, 3) := by decide +kernel
theorem dX4_best_45 : decode cX4_best 45 = .ok (.iload 4, 2) := by decide +kernel
theorem dX4_best_47 : decode cX4_best 47 = .ok (.invokevirtual 146, 3) := by decide +kernel
theorem dX4_best_50 : decode cX4_best 50 = .ok (.pop, 1) := by decide +kernel
theorem dX4_best_51 : decode cX4_best 51 = .ok (.aload_n 0, 1) := by decide +kernel
theorem dX4_best_52 : decode cX4_best 52 = .ok (.getfield 16, 3) := by decide +kernel
theorem dX4_best_55 : decode cX4_best 55 = .ok (.iload_n 1, 1) := by decide +kernel
theorem dX4_best_56 : decode cX4_best 56 = .ok (.invokevirtual 156, 3) := by decide +kernel
theorem dX4_best_59 : decode cX4_best 59 = .ok (.aload_n 0, 1) := by decide +kernel
theorem dX4_best_60 : decode cX4_best 60 = .ok (.getfield 16, 3) := by decide +kernel
theorem dX4_best_63 : decode cX4_best 63 = .ok (.getfield 63, 3) := by decide +kernel
theorem dX4_best_66 : decode cX4_best 66 = .ok (.invokestatic 167, 3) := by decide +kernel
theorem dX4_best_69 : decode cX4_best 69 = .ok (.istore 5, 2) := by decide +kernel
theorem dX4_best_71 : decode cX4_best 71 = .ok (.iload 5, 2) := by decide +kernel
theorem dX4_best_73 : decode cX4_best 73 = .ok (.iload_n 3, 1) := by decide +kernel
theorem dX4_best_74 : decode cX4_best 74 = .ok (.if_icmp .le 9, 3) := by decide +kernel
theorem dX4_best_77 : decode cX4_best 77 = .ok (.iload 5, 2) := by decide +kernel
theorem dX4_best_79 : decode cX4_best 79 = .ok (.istore_n 3, 1) := by decide +kernel
theorem dX4_best_80 : decode cX4_best 80 = .ok (.iload 4, 2) := by decide +kernel
theorem dX4_best_82 : decode cX4_best 82 = .ok (.istore_n 2, 1) := by decide +kernel
theorem dX4_best_83 : decode cX4_best 83 = .ok (.iinc 4 1, 3) := by decide +kernel
theorem dX4_best_86 : decode cX4_best 86 = .ok (.goto (-63), 3) := by decide +kernel
theorem dX4_best_89 : decode cX4_best 89 = .ok (.iload_n 2, 1) := by decide +kernel
theorem dX4_best_90 : decode cX4_best 90 = .ok (.ireturn, 1) := by decide +kernel
theorem dX4_lean_0 : decode cX4_lean 0 = .ok (.iload_n 1, 1) := by decide +kernel
theorem dX4_lean_1 : decode cX4_lean 1 = .ok (.invokestatic 44, 3) := by decide +kernel
theorem dX4_lean_4 : decode cX4_lean 4 = .ok (.ifCond .eq 11, 3) := by decide +kernel
theorem dX4_lean_7 : decode cX4_lean 7 = .ok (.aload_n 0, 1) := by decide +kernel
theorem dX4_lean_8 : decode cX4_lean 8 = .ok (.iload_n 2, 1) := by decide +kernel
theorem dX4_lean_9 : decode cX4_lean 9 = .ok (.invokevirtual 93, 3) := by decide +kernel
theorem dX4_lean_12 : decode cX4_lean 12 = .ok (.ifCond .ne 10, 3) := by decide +kernel
theorem dX4_lean_15 : decode cX4_lean 15 = .ok (.aload_n 0, 1) := by decide +kernel
theorem dX4_lean_16 : decode cX4_lean 16 = .ok (.ldc 56, 2) := by decide +kernel
theorem dX4_lean_18 : decode cX4_lean 18 = .ok (.invokevirtual 57, 3) := by decide +kernel
theorem dX4_lean_21 : decode cX4_lean 21 = .ok (.ireturn, 1) := by decide +kernel
theorem dX4_lean_22 : decode cX4_lean 22 = .ok (.aload_n 0, 1) := by decide +kernel
theorem dX4_lean_23 : decode cX4_lean 23 = .ok (.getfield 10, 3) := by decide +kernel
theorem dX4_lean_26 : decode cX4_lean 26 = .ok (.iload_n 1, 1) := by decide +kernel
theorem dX4_lean_27 : decode cX4_lean 27 = .ok (.invokevirtual 185, 3) := by decide +kernel
theorem dX4_lean_30 : decode cX4_lean 30 = .ok (.ifCond .ne 10, 3) := by decide +kernel
theorem dX4_lean_33 : decode cX4_lean 33 = .ok (.aload_n 0, 1) := by decide +kernel
theorem dX4_lean_34 : decode cX4_lean 34 = .ok (.ldc 184, 2) := by decide +kernel
theorem dX4_lean_36 : decode cX4_lean 36 = .ok (.invokevirtual 57, 3) := by decide +kernel
theorem dX4_lean_39 : decode cX4_lean 39 = .ok (.ireturn, 1) := by decide +kernel
theorem dX4_lean_40 : decode cX4_lean 40 = .ok (.aload_n 0, 1) := by decide +kernel
theorem dX4_lean_41 : decode cX4_lean 41 = .ok (.getfield 10, 3) := by decide +kernel
theorem dX4_lean_44 : decode cX4_lean 44 = .ok (.iload_n 2, 1) := by decide +kernel
theorem dX4_lean_45 : decode cX4_lean 45 = .ok (.invokevirtual 114, 3) := by decide +kernel
theorem dX4_lean_48 : decode cX4_lean 48 = .ok (.ireturn, 1) := by decide +kernel
theorem dX4_leanFor_0 : decode cX4_leanFor 0 = .ok (.iload_n 1, 1) := by decide +kernel
theorem dX4_leanFor_1 : decode cX4_leanFor 1 = .ok (.invokestatic 44, 3) := by decide +kernel
theorem dX4_leanFor_4 : decode cX4_leanFor 4 = .ok (.ifCond .eq 12, 3) := by decide +kernel
theorem dX4_leanFor_7 : decode cX4_leanFor 7 = .ok (.iload_n 2, 1) := by decide +kernel
theorem dX4_leanFor_8 : decode cX4_leanFor 8 = .ok (.bipush 20, 2) := by decide +kernel
theorem dX4_leanFor_10 : decode cX4_leanFor 10 = .ok (.invokestatic 52, 3) := by decide +kernel
theorem dX4_leanFor_13 : decode cX4_leanFor 13 = .ok (.ifCond .ne 10, 3) := by decide +kernel
theorem dX4_leanFor_16 : decode cX4_leanFor 16 = .ok (.aload_n 0, 1) := by decide +kernel
theorem dX4_leanFor_17 : decode cX4_leanFor 17 = .ok (.ldc 56, 2) := by decide +kernel
theorem dX4_leanFor_19 : decode cX4_leanFor 19 = .ok (.invokevirtual 57, 3) := by decide +kernel
theorem dX4_leanFor_22 : decode cX4_leanFor 22 = .ok (.ireturn, 1) := by decide +kernel
theorem dX4_leanFor_23 : decode cX4_leanFor 23 = .ok (.iconst 0, 1) := by decide +kernel
theorem dX4_leanFor_24 : decode cX4_leanFor 24 = .ok (.istore_n 3, 1) := by decide +kernel
theorem dX4_leanFor_25 : decode cX4_leanFor 25 = .ok (.iconst (-1), 1) := by decide +kernel
theorem dX4_leanFor_26 : decode cX4_leanFor 26 = .ok (.istore 4, 2) := by decide +kernel
theorem dX4_leanFor_28 : decode cX4_leanFor 28 = .ok (.iconst 0, 1) := by decide +kernel
theorem dX4_leanFor_29 : decode cX4_leanFor 29 = .ok (.istore 5, 2) := by decide +kernel
theorem dX4_leanFor_31 : decode cX4_leanFor 31 = .ok (.iload 5, 2) := by decide +kernel
theorem dX4_leanFor_33 : decode cX4_leanFor 33 = .ok (.bipush 9, 2) := by decide +kernel
theorem dX4_leanFor_35 : decode cX4_leanFor 35 = .ok (.if_icmp .gt 67, 3) := by decide +kernel
theorem dX4_leanFor_38 : decode cX4_leanFor 38 = .ok (.aload_n 0, 1) := by decide +kernel
theorem dX4_leanFor_39 : decode cX4_leanFor 39 = .ok (.getfield 16, 3) := by decide +kernel
theorem dX4_leanFor_42 : decode cX4_leanFor 42 = .ok (.aload_n 0, 1) := by decide +kernel
theorem dX4_leanFor_43 : decode cX4_leanFor 43 = .ok (.getfield 10, 3) := by decide +kernel
theorem dX4_leanFor_46 : decode cX4_leanFor 46 = .ok (.invokevirtual 177, 3) := by decide +kernel
theorem dX4_leanFor_49 : decode cX4_leanFor 49 = .ok (.aload_n 0, 1) := by decide +kernel
theorem dX4_leanFor_50 : decode cX4_leanFor 50 = .ok (.getfield 16, 3) := by decide +kernel
theorem dX4_leanFor_53 : decode cX4_leanFor 53 = .ok (.getfield 66, 3) := by decide +kernel
theorem dX4_leanFor_56 : decode cX4_leanFor 56 = .ok (.iload_n 1, 1) := by decide +kernel
theorem dX4_leanFor_57 : decode cX4_leanFor 57 = .ok (.iload 5, 2) := by decide +kernel
theorem dX4_leanFor_59 : decode cX4_leanFor 59 = .ok (.iastore, 1) := by decide +kernel
theorem dX4_leanFor_60 : decode cX4_leanFor 60 = .ok (.aload_n 0, 1) := by decide +kernel
theorem dX4_leanFor_61 : decode cX4_leanFor 61 = .ok (.getfield 16, 3) := by decide +kernel
theorem dX4_leanFor_64 : decode cX4_leanFor 64 = .ok (.iload_n 2, 1) := by decide +kernel
theorem dX4_leanFor_65 : decode cX4_leanFor 65 = .ok (.invokevirtual 156, 3) := by decide +kernel
theorem dX4_leanFor_68 : decode cX4_leanFor 68 = .ok (.aload_n 0, 1) := by decide +kernel
theorem dX4_leanFor_69 : decode cX4_leanFor 69 = .ok (.getfield 16, 3) := by decide +kernel
theorem dX4_leanFor_72 : decode cX4_leanFor 72 = .ok (.getfield 63, 3) := by decide +kernel
theorem dX4_leanFor_75 : decode cX4_leanFor 75 = .ok (.iload_n 1, 1) := by decide +kernel
theorem dX4_leanFor_76 : decode cX4_leanFor 76 = .ok (.iaload, 1) := by decide +kernel
theorem dX4_leanFor_77 : decode cX4_leanFor 77 = .ok (.iload 4, 2) := by decide +kernel
theorem dX4_leanFor_79 : decode cX4_leanFor 79 = .ok (.if_icmp .le 17, 3) := by decide +kernel
theorem dX4_leanFor_82 : decode cX4_leanFor 82 = .ok (.aload_n 0, 1) := by decide +kernel
theorem dX4_leanFor_83 : decode cX4_leanFor 83 = .ok (.getfield 16, 3) := by decide +kernel
theorem dX4_leanFor_86 : decode cX4_leanFor 86 = .ok (.getfield 63, 3) := by decide +kernel
theorem dX4_leanFor_89 : decode cX4_leanFor 89 = .ok (.iload_n 1, 1) := by decide +kernel
theorem dX4_leanFor_90 : decode cX4_leanFor 90 = .ok (.iaload, 1) := by decide +kernel
theorem dX4_leanFor_91 : decode cX4_leanFor 91 = .ok (.istore 4, 2) := by decide +kernel
theorem dX4_leanFor_93 : decode cX4_leanFor 93 = .ok (.iload 5, 2) := by decide +kernel
theorem dX4_leanFor_95 : decode cX4_leanFor 95 = .ok (.istore_n 3, 1) := by decide +kernel
theorem dX4_leanFor_96 : decode cX4_leanFor 96 = .ok (.iinc 5 1, 3) := by decide +kernel
theorem dX4_leanFor_99 : decode cX4_leanFor 99 = .ok (.goto (-68), 3) := by decide +kernel
theorem dX4_leanFor_102 : decode cX4_leanFor 102 = .ok (.iload_n 3, 1) := by decide +kernel
theorem dX4_leanFor_103 : decode cX4_leanFor 103 = .ok (.ireturn, 1) := by decide +kernel
theorem dX4_kind_0 : decode cX4_kind 0 = .ok (.aload_n 0, 1) := by decide +kernel
theorem dX4_kind_1 : decode cX4_kind 1 = .ok (.iload_n 1, 1) := by decide +kernel
theorem dX4_kind_2 : decode cX4_kind 2 = .ok (.invokevirtual 93, 3) := by decide +kernel
theorem dX4_kind_5 : decode cX4_kind 5 = .ok (.ifCond .ne 10, 3) := by decide +kernel
theorem dX4_kind_8 : decode cX4_kind 8 = .ok (.aload_n 0, 1) := by decide +kernel
theorem dX4_kind_9 : decode cX4_kind 9 = .ok (.ldc 56, 2) := by decide +kernel
theorem dX4_kind_11 : decode cX4_kind 11 = .ok (.invokevirtual 57, 3) := by decide +kernel
theorem dX4_kind_14 : decode cX4_kind 14 = .ok (.ireturn, 1) := by decide +kernel
theorem dX4_kind_15 : decode cX4_kind 15 = .ok (.aload_n 0, 1) := by decide +kernel
theorem dX4_kind_16 : decode cX4_kind 16 = .ok (.getfield 10, 3) := by decide +kernel
theorem dX4_kind_19 : decode cX4_kind 19 = .ok (.getfield 102, 3) := by decide +kernel
theorem dX4_kind_22 : decode cX4_kind 22 = .ok (.iload_n 1, 1) := by decide +kernel
theorem dX4_kind_23 : decode cX4_kind 23 = .ok (.iaload, 1) := by decide +kernel
theorem dX4_kind_24 : decode cX4_kind 24 = .ok (.istore_n 2, 1) := by decide +kernel
theorem dX4_kind_25 : decode cX4_kind 25 = .ok (.aload_n 0, 1) := by decide +kernel
theorem dX4_kind_26 : decode cX4_kind 26 = .ok (.getfield 10, 3) := by decide +kernel
theorem dX4_kind_29 : decode cX4_kind 29 = .ok (.getfield 105, 3) := by decide +kernel
theorem dX4_kind_32 : decode cX4_kind 32 = .ok (.iload_n 1, 1) := by decide +kernel
theorem dX4_kind_33 : decode cX4_kind 33 = .ok (.iaload, 1) := by decide +kernel
theorem dX4_kind_34 : decode cX4_kind 34 = .ok (.istore_n 3, 1) := by decide +kernel
theorem dX4_kind_35 : decode cX4_kind 35 = .ok (.iconst 0, 1) := by decide +kernel
theorem dX4_kind_36 : decode cX4_kind 36 = .ok (.istore 4, 2) := by decide +kernel
theorem dX4_kind_38 : decode cX4_kind 38 = .ok (.iconst 1, 1) := by decide +kernel
theorem dX4_kind_39 : decode cX4_kind 39 = .ok (.istore 5, 2) := by decide +kernel
theorem dX4_kind_41 : decode cX4_kind 41 = .ok (.iload 5, 2) := by decide +kernel
theorem dX4_kind_43 : decode cX4_kind 43 = .ok (.bipush 6, 2) := by decide +kernel
theorem dX4_kind_45 : decode cX4_kind 45 = .ok (.if_icmp .ge 30, 3) := by decide +kernel
theorem dX4_kind_48 : decode cX4_kind 48 = .ok (.iload 5, 2) := by decide +kernel
theorem dX4_kind_50 : decode cX4_kind 50 = .ok (.iload_n 2, 1) := by decide +kernel
theorem dX4_kind_51 : decode cX4_kind 51 = .ok (.iload_n 3, 1) := by decide +kernel
theorem dX4_kind_52 : decode cX4_kind 52 = .ok (.invokestatic 188, 3) := by decide +kernel
theorem dX4_kind_55 : decode cX4_kind 55 = .ok (.iload 4, 2) := by decide +kernel
theorem dX4_kind_57 : decode cX4_kind 57 = .ok (.iload_n 2, 1) := by decide +kernel
theorem dX4_kind_58 : decode cX4_kind 58 = .ok (.iload_n 3, 1) := by decide +kernel
theorem dX4_kind_59 : decode cX4_kind 59 = .ok (.invokestatic 188, 3) := by decide +kernel
theorem dX4_kind_62 : decode cX4_kind 62 = .ok (.if_icmp .ge 7, 3) := by decide +kernel
theorem dX4_kind_65 : decode cX4_kind 65 = .ok (.iload 5, 2) := by decide +kernel
theorem dX4_kind_67 : decode cX4_kind 67 = .ok (.istore 4, 2) := by decide +kernel
theorem dX4_kind_69 : decode cX4_kind 69 = .ok (.iinc 5 1, 3) := by decide +kernel
theorem dX4_kind_72 : decode cX4_kind 72 = .ok (.goto (-31), 3) := by decide +kernel
theorem dX4_kind_75 : decode cX4_kind 75 = .ok (.iload 4, 2) := by decide +kernel
theorem dX4_kind_77 : decode cX4_kind 77 = .ok (.ireturn, 1) := by decide +kernel
theorem dX4_host_0 : decode cX4_host 0 = .ok (.aload_n 0, 1) := by decide +kernel
theorem dX4_host_1 : decode cX4_host 1 = .ok (.iload_n 1, 1) := by decide +kernel
theorem dX4_host_2 : decode cX4_host 2 = .ok (.invokevirtual 93, 3) := by decide +kernel
theorem dX4_host_5 : decode cX4_host 5 = .ok (.ifCond .ne 10, 3) := by decide +kernel
theorem dX4_host_8 : decode cX4_host 8 = .ok (.aload_n 0, 1) := by decide +kernel
theorem dX4_host_9 : decode cX4_host 9 = .ok (.ldc 56, 2) := by decide +kernel
theorem dX4_host_11 : decode cX4_host 11 = .ok (.invokevirtual 57, 3) := by decide +kernel
theorem dX4_host_14 : decode cX4_host 14 = .ok (.ireturn, 1) := by decide +kernel
theorem dX4_host_15 : decode cX4_host 15 = .ok (.aload_n 0, 1) := by decide +kernel
theorem dX4_host_16 : decode cX4_host 16 = .ok (.getfield 10, 3) := by decide +kernel
theorem dX4_host_19 : decode cX4_host 19 = .ok (.iload_n 1, 1) := by decide +kernel
theorem dX4_host_20 : decode cX4_host 20 = .ok (.invokevirtual 136, 3) := by decide +kernel
theorem dX4_host_23 : decode cX4_host 23 = .ok (.istore_n 2, 1) := by decide +kernel
theorem dX4_host_24 : decode cX4_host 24 = .ok (.iload_n 2, 1) := by decide +kernel
theorem dX4_host_25 : decode cX4_host 25 = .ok (.iconst (-1), 1) := by decide +kernel
theorem dX4_host_26 : decode cX4_host 26 = .ok (.if_icmp .ne 12, 3) := by decide +kernel
theorem dX4_host_29 : decode cX4_host 29 = .ok (.aload_n 0, 1) := by decide +kernel
theorem dX4_host_30 : decode cX4_host 30 = .ok (.ldc 184, 2) := by decide +kernel
theorem dX4_host_32 : decode cX4_host 32 = .ok (.invokevirtual 57, 3) := by decide +kernel
theorem dX4_host_35 : decode cX4_host 35 = .ok (.goto 4, 3) := by decide +kernel
theorem dX4_host_38 : decode cX4_host 38 = .ok (.iload_n 2, 1) := by decide +kernel
theorem dX4_host_39 : decode cX4_host 39 = .ok (.ireturn, 1) := by decide +kernel
theorem dX4_beds_0 : decode cX4_beds 0 = .ok (.iload_n 1, 1) := by decide +kernel
theorem dX4_beds_1 : decode cX4_beds 1 = .ok (.invokestatic 44, 3) := by decide +kernel
theorem dX4_beds_4 : decode cX4_beds 4 = .ok (.ifCond .eq 12, 3) := by decide +kernel
theorem dX4_beds_7 : decode cX4_beds 7 = .ok (.iload_n 2, 1) := by decide +kernel
theorem dX4_beds_8 : decode cX4_beds 8 = .ok (.bipush 20, 2) := by decide +kernel
theorem dX4_beds_10 : decode cX4_beds 10 = .ok (.invokestatic 52, 3) := by decide +kernel
theorem dX4_beds_13 : decode cX4_beds 13 = .ok (.ifCond .ne 10, 3) := by decide +kernel
theorem dX4_beds_16 : decode cX4_beds 16 = .ok (.aload_n 0, 1) := by decide +kernel
theorem dX4_beds_17 : decode cX4_beds 17 = .ok (.ldc 56, 2) := by decide +kernel
theorem dX4_beds_19 : decode cX4_beds 19 = .ok (.invokevirtual 57, 3) := by decide +kernel
theorem dX4_beds_22 : decode cX4_beds 22 = .ok (.ireturn, 1) := by decide +kernel
theorem dX4_beds_23 : decode cX4_beds 23 = .ok (.iconst 0, 1) := by decide +kernel
theorem dX4_beds_24 : decode cX4_beds 24 = .ok (.istore_n 3, 1) := by decide +kernel
theorem dX4_beds_25 : decode cX4_beds 25 = .ok (.iload_n 3, 1) := by decide +kernel
theorem dX4_beds_26 : decode cX4_beds 26 = .ok (.iconst 3, 1) := by decide +kernel
theorem dX4_beds_27 : decode cX4_beds 27 = .ok (.if_icmp .gt 51, 3) := by decide +kernel
theorem dX4_beds_30 : decode cX4_beds 30 = .ok (.aload_n 0, 1) := by decide +kernel
theorem dX4_beds_31 : decode cX4_beds 31 = .ok (.getfield 16, 3) := by decide +kernel
theorem dX4_beds_34 : decode cX4_beds 34 = .ok (.aload_n 0, 1) := by decide +kernel
theorem dX4_beds_35 : decode cX4_beds 35 = .ok (.getfield 10, 3) := by decide +kernel
theorem dX4_beds_38 : decode cX4_beds 38 = .ok (.invokevirtual 177, 3) := by decide +kernel
theorem dX4_beds_41 : decode cX4_beds 41 = .ok (.aload_n 0, 1) := by decide +kernel
theorem dX4_beds_42 : decode cX4_beds 42 = .ok (.getfield 16, 3) := by decide +kernel
theorem dX4_beds_45 : decode cX4_beds 45 = .ok (.getfield 60, 3) := by decide +kernel
theorem dX4_beds_48 : decode cX4_beds 48 = .ok (.iload_n 1, 1) := by decide +kernel
theorem dX4_beds_49 : decode cX4_beds 49 = .ok (.iload_n 3, 1) := by decide +kernel
theorem dX4_beds_50 : decode cX4_beds 50 = .ok (.iastore, 1) := by decide +kernel
theorem dX4_beds_51 : decode cX4_beds 51 = .ok (.aload_n 0, 1) := by decide +kernel
theorem dX4_beds_52 : decode cX4_beds 52 = .ok (.getfield 16, 3) := by decide +kernel
theorem dX4_beds_55 : decode cX4_beds 55 = .ok (.iload_n 2, 1) := by decide +kernel
theorem dX4_beds_56 : decode cX4_beds 56 = .ok (.invokevirtual 156, 3) := by decide +kernel
theorem dX4_beds_59 : decode cX4_beds 59 = .ok (.aload_n 0, 1) := by decide +kernel
theorem dX4_beds_60 : decode cX4_beds 60 = .ok (.getfield 16, 3) := by decide +kernel
theorem dX4_beds_63 : decode cX4_beds 63 = .ok (.iconst (-1), 1) := by decide +kernel
theorem dX4_beds_64 : decode cX4_beds 64 = .ok (.invokevirtual 69, 3) := by decide +kernel
theorem dX4_beds_67 : decode cX4_beds 67 = .ok (.ifCond .ne 5, 3) := by decide +kernel
theorem dX4_beds_70 : decode cX4_beds 70 = .ok (.iload_n 3, 1) := by decide +kernel
theorem dX4_beds_71 : decode cX4_beds 71 = .ok (.ireturn, 1) := by decide +kernel
theorem dX4_beds_72 : decode cX4_beds 72 = .ok (.iinc 3 1, 3) := by decide +kernel
theorem dX4_beds_75 : decode cX4_beds 75 = .ok (.goto (-50), 3) := by decide +kernel
theorem dX4_beds_78 : decode cX4_beds 78 = .ok (.aload_n 0, 1) := by decide +kernel
theorem dX4_beds_79 : decode cX4_beds 79 = .ok (.ldc 184, 2) := by decide +kernel
theorem dX4_beds_81 : decode cX4_beds 81 = .ok (.invokevirtual 57, 3) := by decide +kernel
theorem dX4_beds_84 : decode cX4_beds 84 = .ok (.ireturn, 1) := by decide +kernel
theorem dX4_feed_0 : decode cX4_feed 0 = .ok (.iload_n 2, 1) := by decide +kernel
theorem dX4_feed_1 : decode cX4_feed 1 = .ok (.iconst 1, 1) := by decide +kernel
theorem dX4_feed_2 : decode cX4_feed 2 = .ok (.if_icmp .lt 8, 3) := by decide +kernel
theorem dX4_feed_5 : decode cX4_feed 5 = .ok (.iload_n 2, 1) := by decide +kernel
theorem dX4_feed_6 : decode cX4_feed 6 = .ok (.iconst 4, 1) := by decide +kernel
theorem dX4_feed_7 : decode cX4_feed 7 = .ok (.if_icmp .le 10, 3) := by decide +kernel
theorem dX4_feed_10 : decode cX4_feed 10 = .ok (.aload_n 0, 1) := by decide +kernel
theorem dX4_feed_11 : decode cX4_feed 11 = .ok (.ldc 56, 2) := by decide +kernel
theorem dX4_feed_13 : decode cX4_feed 13 = .ok (.invokevirtual 57, 3) := by decide +kernel
theorem dX4_feed_16 : decode cX4_feed 16 = .ok (.ireturn, 1) := by decide +kernel
theorem dX4_feed_17 : decode cX4_feed 17 = .ok (.aload_n 0, 1) := by decide +kernel
theorem dX4_feed_18 : decode cX4_feed 18 = .ok (.getfield 29, 3) := by decide +kernel
theorem dX4_feed_21 : decode cX4_feed 21 = .ok (.getfield 191, 3) := by decide +kernel
theorem dX4_feed_24 : decode cX4_feed 24 = .ok (.iload_n 2, 1) := by decide +kernel
theorem dX4_feed_25 : decode cX4_feed 25 = .ok (.iadd, 1) := by decide +kernel
theorem dX4_feed_26 : decode cX4_feed 26 = .ok (.bipush 120, 2) := by decide +kernel
theorem dX4_feed_28 : decode cX4_feed 28 = .ok (.if_icmp .le 10, 3) := by decide +kernel
theorem dX4_feed_31 : decode cX4_feed 31 = .ok (.aload_n 0, 1) := by decide +kernel
theorem dX4_feed_32 : decode cX4_feed 32 = .ok (.ldc 88, 2) := by decide +kernel
theorem dX4_feed_34 : decode cX4_feed 34 = .ok (.invokevirtual 57, 3) := by decide +kernel
theorem dX4_feed_37 : decode cX4_feed 37 = .ok (.ireturn, 1) := by decide +kernel
theorem dX4_feed_38 : decode cX4_feed 38 = .ok (.iload_n 2, 1) := by decide +kernel
theorem dX4_feed_39 : decode cX4_feed 39 = .ok (.iconst 1, 1) := by decide +kernel
theorem dX4_feed_40 : decode cX4_feed 40 = .ok (.isub, 1) := by decide +kernel
theorem dX4_feed_41 : decode cX4_feed 41 = .ok (.istore_n 3, 1) := by decide +kernel
theorem dX4_feed_42 : decode cX4_feed 42 = .ok (.iload_n 3, 1) := by decide +kernel
theorem dX4_feed_43 : decode cX4_feed 43 = .ok (.ifCond .lt 26, 3) := by decide +kernel
theorem dX4_feed_46 : decode cX4_feed 46 = .ok (.aload_n 0, 1) := by decide +kernel
theorem dX4_feed_47 : decode cX4_feed 47 = .ok (.getfield 29, 3) := by decide +kernel
theorem dX4_feed_50 : decode cX4_feed 50 = .ok (.iload_n 1, 1) := by decide +kernel
theorem dX4_feed_51 : decode cX4_feed 51 = .ok (.bipush 8, 2) := by decide +kernel
theorem dX4_feed_53 : decode cX4_feed 53 = .ok (.iload_n 3, 1) := by decide +kernel
theorem dX4_feed_54 : decode cX4_feed 54 = .ok (.imul, 1) := by decide +kernel
theorem dX4_feed_55 : decode cX4_feed 55 = .ok (.iushr, 1) := by decide +kernel
theorem dX4_feed_56 : decode cX4_feed 56 = .ok (.sipush 255, 3) := by decide +kernel
theorem dX4_feed_59 : decode cX4_feed 59 = .ok (.iand, 1) := by decide +kernel
theorem dX4_feed_60 : decode cX4_feed 60 = .ok (.invokevirtual 194, 3) := by decide +kernel
theorem dX4_feed_63 : decode cX4_feed 63 = .ok (.iinc 3 (-1), 3) := by decide +kernel
theorem dX4_feed_66 : decode cX4_feed 66 = .ok (.goto (-24), 3) := by decide +kernel
theorem dX4_feed_69 : decode cX4_feed 69 = .ok (.aload_n 0, 1) := by decide +kernel
theorem dX4_feed_70 : decode cX4_feed 70 = .ok (.getfield 29, 3) := by decide +kernel
theorem dX4_feed_73 : decode cX4_feed 73 = .ok (.getfield 191, 3) := by decide +kernel
theorem dX4_feed_76 : decode cX4_feed 76 = .ok (.ireturn, 1) := by decide +kernel
theorem dX4_wipe_0 : decode cX4_wipe 0 = .ok (.aload_n 0, 1) := by decide +kernel
theorem dX4_wipe_1 : decode cX4_wipe 1 = .ok (.getfield 29, 3) := by decide +kernel
theorem dX4_wipe_4 : decode cX4_wipe 4 = .ok (.getfield 191, 3) := by decide +kernel
theorem dX4_wipe_7 : decode cX4_wipe 7 = .ok (.istore_n 1, 1) := by decide +kernel
theorem dX4_wipe_8 : decode cX4_wipe 8 = .ok (.aload_n 0, 1) := by decide +kernel
theorem dX4_wipe_9 : decode cX4_wipe 9 = .ok (.getfield 29, 3) := by decide +kernel
theorem dX4_wipe_12 : decode cX4_wipe 12 = .ok (.iconst 0, 1) := by decide +kernel
theorem dX4_wipe_13 : decode cX4_wipe 13 = .ok (.putfield 191, 3) := by decide +kernel
theorem dX4_wipe_16 : decode cX4_wipe 16 = .ok (.iload_n 1, 1) := by decide +kernel
theorem dX4_wipe_17 : decode cX4_wipe 17 = .ok (.ireturn, 1) := by decide +kernel
theorem dX4_town_0 : decode cX4_town 0 = .ok (.aload_n 0, 1) := by decide +kernel
theorem dX4_town_1 : decode cX4_town 1 = .ok (.getfield 16, 3) := by decide +kernel
theorem dX4_town_4 : decode cX4_town 4 = .ok (.aload_n 0, 1) := by decide +kernel
theorem dX4_town_5 : decode cX4_town 5 = .ok (.getfield 10, 3) := by decide +kernel
theorem dX4_town_8 : decode cX4_town 8 = .ok (.invokevirtual 177, 3) := by decide +kernel
theorem dX4_town_11 : decode cX4_town 11 = .ok (.aload_n 0, 1) := by decide +kernel
theorem dX4_town_12 : decode cX4_town 12 = .ok (.getfield 29, 3) := by decide +kernel
theorem dX4_town_15 : decode cX4_town 15 = .ok (.aload_n 0, 1) := by decide +kernel
theorem dX4_town_16 : decode cX4_town 16 = .ok (.getfield 16, 3) := by decide +kernel
theorem dX4_town_19 : decode cX4_town 19 = .ok (.invokevirtual 197, 3) := by decide +kernel
theorem dX4_town_22 : decode cX4_town 22 = .ok (.istore_n 1, 1) := by decide +kernel
theorem dX4_town_23 : decode cX4_town 23 = .ok (.iload_n 1, 1) := by decide +kernel
theorem dX4_town_24 : decode cX4_town 24 = .ok (.ifCond .le 14, 3) := by decide +kernel
theorem dX4_town_27 : decode cX4_town 27 = .ok (.aload_n 0, 1) := by decide +kernel
theorem dX4_town_28 : decode cX4_town 28 = .ok (.getfield 10, 3) := by decide +kernel
theorem dX4_town_31 : decode cX4_town 31 = .ok (.aload_n 0, 1) := by decide +kernel
theorem dX4_town_32 : decode cX4_town 32 = .ok (.getfield 16, 3) := by decide +kernel
theorem dX4_town_35 : decode cX4_town 35 = .ok (.invokevirtual 177, 3) := by decide +kernel
theorem dX4_town_38 : decode cX4_town 38 = .ok (.aload_n 0, 1) := by decide +kernel
theorem dX4_town_39 : decode cX4_town 39 = .ok (.getfield 29, 3) := by decide +kernel
theorem dX4_town_42 : decode cX4_town 42 = .ok (.iconst 0, 1) := by decide +kernel
theorem dX4_town_43 : decode cX4_town 43 = .ok (.putfield 191, 3) := by decide +kernel
theorem dX4_town_46 : decode cX4_town 46 = .ok (.iload_n 1, 1) := by decide +kernel
theorem dX4_town_47 : decode cX4_town 47 = .ok (.ireturn, 1) := by decide +kernel
theorem dX4_sheet_0 : decode cX4_sheet 0 = .ok (.iload_n 1, 1) := by decide +kernel
theorem dX4_sheet_1 : decode cX4_sheet 1 = .ok (.invokestatic 201, 3) := by decide +kernel
theorem dX4_sheet_4 : decode cX4_sheet 4 = .ok (.ifCond .eq 25, 3) := by decide +kernel
theorem dX4_sheet_7 : decode cX4_sheet 7 = .ok (.iload_n 2, 1) := by decide +kernel
theorem dX4_sheet_8 : decode cX4_sheet 8 = .ok (.ifCond .eq 28, 3) := by decide +kernel
theorem dX4_sheet_11 : decode cX4_sheet 11 = .ok (.iload_n 2, 1) := by decide +kernel
theorem dX4_sheet_12 : decode cX4_sheet 12 = .ok (.bipush 8, 2) := by decide +kernel
theorem dX4_sheet_14 : decode cX4_sheet 14 = .ok (.if_icmp .eq 22, 3) := by decide +kernel
theorem dX4_sheet_17 : decode cX4_sheet 17 = .ok (.iload_n 2, 1) := by decide +kernel
theorem dX4_sheet_18 : decode cX4_sheet 18 = .ok (.bipush 16, 2) := by decide +kernel
theorem dX4_sheet_20 : decode cX4_sheet 20 = .ok (.if_icmp .eq 16, 3) := by decide +kernel
theorem dX4_sheet_23 : decode cX4_sheet 23 = .ok (.iload_n 2, 1) := by decide +kernel
theorem dX4_sheet_24 : decode cX4_sheet 24 = .ok (.bipush 64, 2) := by decide +kernel
theorem dX4_sheet_26 : decode cX4_sheet 26 = .ok (.if_icmp .eq 10, 3) := by decide +kernel
theorem dX4_sheet_29 : decode cX4_sheet 29 = .ok (.aload_n 0, 1) := by decide +kernel
theorem dX4_sheet_30 : decode cX4_sheet 30 = .ok (.ldc 56, 2) := by decide +kernel
theorem dX4_sheet_32 : decode cX4_sheet 32 = .ok (.invokevirtual 57, 3) := by decide +kernel
theorem dX4_sheet_35 : decode cX4_sheet 35 = .ok (.ireturn, 1) := by decide +kernel
theorem dX4_sheet_36 : decode cX4_sheet 36 = .ok (.iload_n 3, 1) := by decide +kernel
theorem dX4_sheet_37 : decode cX4_sheet 37 = .ok (.ifCond .ge 10, 3) := by decide +kernel
theorem dX4_sheet_40 : decode cX4_sheet 40 = .ok (.aload_n 0, 1) := by decide +kernel
theorem dX4_sheet_41 : decode cX4_sheet 41 = .ok (.ldc 204, 2) := by decide +kernel
theorem dX4_sheet_43 : decode cX4_sheet 43 = .ok (.invokevirtual 57, 3) := by decide +kernel
theorem dX4_sheet_46 : decode cX4_sheet 46 = .ok (.ireturn, 1) := by decide +kernel
theorem dX4_sheet_47 : decode cX4_sheet 47 = .ok (.iload_n 3, 1) := by decide +kernel
theorem dX4_sheet_48 : decode cX4_sheet 48 = .ok (.bipush 40, 2) := by decide +kernel
theorem dX4_sheet_50 : decode cX4_sheet 50 = .ok (.if_icmp .le 10, 3) := by decide +kernel
theorem dX4_sheet_53 : decode cX4_sheet 53 = .ok (.aload_n 0, 1) := by decide +kernel
theorem dX4_sheet_54 : decode cX4_sheet 54 = .ok (.ldc 56, 2) := by decide +kernel
theorem dX4_sheet_56 : decode cX4_sheet 56 = .ok (.invokevirtual 57, 3) := by decide +kernel
theorem dX4_sheet_59 : decode cX4_sheet 59 = .ok (.ireturn, 1) := by decide +kernel
theorem dX4_sheet_60 : decode cX4_sheet 60 = .ok (.aload_n 0, 1) := by decide +kernel
theorem dX4_sheet_61 : decode cX4_sheet 61 = .ok (.getfield 35, 3) := by decide +kernel
theorem dX4_sheet_64 : decode cX4_sheet 64 = .ok (.iload_n 1, 1) := by decide +kernel
theorem dX4_sheet_65 : decode cX4_sheet 65 = .ok (.aaload, 1) := by decide +kernel
theorem dX4_sheet_66 : decode cX4_sheet 66 = .ok (.iload_n 2, 1) := by decide +kernel
theorem dX4_sheet_67 : decode cX4_sheet 67 = .ok (.iload_n 3, 1) := by decide +kernel
theorem dX4_sheet_68 : decode cX4_sheet 68 = .ok (.invokevirtual 205, 3) := by decide +kernel
theorem dX4_sheet_71 : decode cX4_sheet 71 = .ok (.aload_n 0, 1) := by decide +kernel
theorem dX4_sheet_72 : decode cX4_sheet 72 = .ok (.getfield 35, 3) := by decide +kernel
theorem dX4_sheet_75 : decode cX4_sheet 75 = .ok (.iload_n 1, 1) := by decide +kernel
theorem dX4_sheet_76 : decode cX4_sheet 76 = .ok (.aaload, 1) := by decide +kernel
theorem dX4_sheet_77 : decode cX4_sheet 77 = .ok (.getfield 208, 3) := by decide +kernel
theorem dX4_sheet_80 : decode cX4_sheet 80 = .ok (.ireturn, 1) := by decide +kernel
theorem dX4_write_0 : decode cX4_write 0 = .ok (.iload_n 1, 1) := by decide +kernel
theorem dX4_write_1 : decode cX4_write 1 = .ok (.invokestatic 201, 3) := by decide +kernel
theorem dX4_write_4 : decode cX4_write 4 = .ok (.ifCond .ne 11, 3) := by decide +kernel
theorem dX4_write_7 : decode cX4_write 7 = .ok (.aload_n 0, 1) := by decide +kernel
theorem dX4_write_8 : decode cX4_write 8 = .ok (.ldc 56, 2) := by decide +kernel
theorem dX4_write_10 : decode cX4_write 10 = .ok (.invokevirtual 57, 3) := by decide +kernel
theorem dX4_write_13 : decode cX4_write 13 = .ok (.i2l, 1) := by decide +kernel
theorem dX4_write_14 : decode cX4_write 14 = .ok (.lreturn, 1) := by decide +kernel
theorem dX4_write_15 : decode cX4_write 15 = .ok (.aload_n 0, 1) := by decide +kernel
theorem dX4_write_16 : decode cX4_write 16 = .ok (.getfield 35, 3) := by decide +kernel
theorem dX4_write_19 : decode cX4_write 19 = .ok (.iload_n 1, 1) := by decide +kernel
theorem dX4_write_20 : decode cX4_write 20 = .ok (.aaload, 1) := by decide +kernel
theorem dX4_write_21 : decode cX4_write 21 = .ok (.astore 5, 2) := by decide +kernel
theorem dX4_write_23 : decode cX4_write 23 = .ok (.aload 5, 2) := by decide +kernel
theorem dX4_write_25 : decode cX4_write 25 = .ok (.invokevirtual 209, 3) := by decide +kernel
theorem dX4_write_28 : decode cX4_write 28 = .ok (.ifCond .eq 11, 3) := by decide +kernel
theorem dX4_write_31 : decode cX4_write 31 = .ok (.aload_n 0, 1) := by decide +kernel
theorem dX4_write_32 : decode cX4_write 32 = .ok (.ldc 212, 2) := by decide +kernel
theorem dX4_write_34 : decode cX4_write 34 = .ok (.invokevirtual 57, 3) := by decide +kernel
theorem dX4_write_37 : decode cX4_write 37 = .ok (.i2l, 1) := by decide +kernel
theorem dX4_write_38 : decode cX4_write 38 = .ok (.lreturn, 1) := by decide +kernel
theorem dX4_write_39 : decode cX4_write 39 = .ok (.iload_n 2, 1) := by decide +kernel
theorem dX4_write_40 : decode cX4_write 40 = .ok (.ifCond .lt 12, 3) := by decide +kernel
theorem dX4_write_43 : decode cX4_write 43 = .ok (.iload_n 2, 1) := by decide +kernel
theorem dX4_write_44 : decode cX4_write 44 = .ok (.aload 5, 2) := by decide +kernel
theorem dX4_write_46 : decode cX4_write 46 = .ok (.getfield 208, 3) := by decide +kernel
theorem dX4_write_49 : decode cX4_write 49 = .ok (.if_icmp .lt 11, 3) := by decide +kernel
theorem dX4_write_52 : decode cX4_write 52 = .ok (.aload_n 0, 1) := by decide +kernel
theorem dX4_write_53 : decode cX4_write 53 = .ok (.ldc 56, 2) := by decide +kernel
theorem dX4_write_55 : decode cX4_write 55 = .ok (.invokevirtual 57, 3) := by decide +kernel
theorem dX4_write_58 : decode cX4_write 58 = .ok (.i2l, 1) := by decide +kernel
theorem dX4_write_59 : decode cX4_write 59 = .ok (.lreturn, 1) := by decide +kernel
theorem dX4_write_60 : decode cX4_write 60 = .ok (.aload 5, 2) := by decide +kernel
theorem dX4_write_62 : decode cX4_write 62 = .ok (.getfield 213, 3) := by decide +kernel
theorem dX4_write_65 : decode cX4_write 65 = .ok (.iload_n 2, 1) := by decide +kernel
theorem dX4_write_66 : decode cX4_write 66 = .ok (.laload, 1) := by decide +kernel
theorem dX4_write_67 : decode cX4_write 67 = .ok (.lstore 6, 2) := by decide +kernel
theorem dX4_write_69 : decode cX4_write 69 = .ok (.aload 5, 2) := by decide +kernel
theorem dX4_write_71 : decode cX4_write 71 = .ok (.iload_n 2, 1) := by decide +kernel
theorem dX4_write_72 : decode cX4_write 72 = .ok (.lload_n 3, 1) := by decide +kernel
theorem dX4_write_73 : decode cX4_write 73 = .ok (.invokevirtual 217, 3) := by decide +kernel
theorem dX4_write_76 : decode cX4_write 76 = .ok (.lload 6, 2) := by decide +kernel
theorem dX4_write_78 : decode cX4_write 78 = .ok (.lreturn, 1) := by decide +kernel
theorem dX4_copy_0 : decode cX4_copy 0 = .ok (.iload_n 1, 1) := by decide +kernel
theorem dX4_copy_1 : decode cX4_copy 1 = .ok (.invokestatic 201, 3) := by decide +kernel
theorem dX4_copy_4 : decode cX4_copy 4 = .ok (.ifCond .eq 10, 3) := by decide +kernel
theorem dX4_copy_7 : decode cX4_copy 7 = .ok (.iload_n 3, 1) := by decide +kernel
theorem dX4_copy_8 : decode cX4_copy 8 = .ok (.invokestatic 201, 3) := by decide +kernel
theorem dX4_copy_11 : decode cX4_copy 11 = .ok (.ifCond .ne 10, 3) := by decide +kernel
theorem dX4_copy_14 : decode cX4_copy 14 = .ok (.aload_n 0, 1) := by decide +kernel
theorem dX4_copy_15 : decode cX4_copy 15 = .ok (.ldc 56, 2) := by decide +kernel
theorem dX4_copy_17 : decode cX4_copy 17 = .ok (.invokevirtual 57, 3) := by decide +kernel
theorem dX4_copy_20 : decode cX4_copy 20 = .ok (.ireturn, 1) := by decide +kernel
theorem dX4_copy_21 : decode cX4_copy 21 = .ok (.aload_n 0, 1) := by decide +kernel
theorem dX4_copy_22 : decode cX4_copy 22 = .ok (.getfield 35, 3) := by decide +kernel
theorem dX4_copy_25 : decode cX4_copy 25 = .ok (.iload_n 1, 1) := by decide +kernel
theorem dX4_copy_26 : decode cX4_copy 26 = .ok (.aaload, 1) := by decide +kernel
theorem dX4_copy_27 : decode cX4_copy 27 = .ok (.astore 6, 2) := by decide +kernel
theorem dX4_copy_29 : decode cX4_copy 29 = .ok (.aload_n 0, 1) := by decide +kernel
theorem dX4_copy_30 : decode cX4_copy 30 = .ok (.getfield 35, 3) := by decide +kernel
theorem dX4_copy_33 : decode cX4_copy 33 = .ok (.iload_n 3, 1) := by decide +kernel
theorem dX4_copy_34 : decode cX4_copy 34 = .ok (.aaload, 1) := by decide +kernel
theorem dX4_copy_35 : decode cX4_copy 35 = .ok (.astore 7, 2) := by decide +kernel
theorem dX4_copy_37 : decode cX4_copy 37 = .ok (.aload 6, 2) := by decide +kernel
theorem dX4_copy_39 : decode cX4_copy 39 = .ok (.invokevirtual 209, 3) := by decide +kernel
theorem dX4_copy_42 : decode cX4_copy 42 = .ok (.ifCond .ne 11, 3) := by decide +kernel
theorem dX4_copy_45 : decode cX4_copy 45 = .ok (.aload 7, 2) := by decide +kernel
theorem dX4_copy_47 : decode cX4_copy 47 = .ok (.invokevirtual 209, 3) := by decide +kernel
theorem dX4_copy_50 : decode cX4_copy 50 = .ok (.ifCond .eq 10, 3) := by decide +kernel
theorem dX4_copy_53 : decode cX4_copy 53 = .ok (.aload_n 0, 1) := by decide +kernel
theorem dX4_copy_54 : decode cX4_copy 54 = .ok (.ldc 212, 2) := by decide +kernel
theorem dX4_copy_56 : decode cX4_copy 56 = .ok (.invokevirtual 57, 3) := by decide +kernel
theorem dX4_copy_59 : decode cX4_copy 59 = .ok (.ireturn, 1) := by decide +kernel
theorem dX4_copy_60 : decode cX4_copy 60 = .ok (.aload 6, 2) := by decide +kernel
theorem dX4_copy_62 : decode cX4_copy 62 = .ok (.getfield 221, 3) := by decide +kernel
theorem dX4_copy_65 : decode cX4_copy 65 = .ok (.aload 7, 2) := by decide +kernel
theorem dX4_copy_67 : decode cX4_copy 67 = .ok (.getfield 221, 3) := by decide +kernel
theorem dX4_copy_70 : decode cX4_copy 70 = .ok (.if_icmp .eq 10, 3) := by decide +kernel
theorem dX4_copy_73 : decode cX4_copy 73 = .ok (.aload_n 0, 1) := by decide +kernel
theorem dX4_copy_74 : decode cX4_copy 74 = .ok (.ldc 128, 2) := by decide +kernel
theorem dX4_copy_76 : decode cX4_copy 76 = .ok (.invokevirtual 57, 3) := by decide +kernel
theorem dX4_copy_79 : decode cX4_copy 79 = .ok (.ireturn, 1) := by decide +kernel
theorem dX4_copy_80 : decode cX4_copy 80 = .ok (.aload 6, 2) := by decide +kernel
theorem dX4_copy_82 : decode cX4_copy 82 = .ok (.iload_n 2, 1) := by decide +kernel
theorem dX4_copy_83 : decode cX4_copy 83 = .ok (.iload 5, 2) := by decide +kernel
theorem dX4_copy_85 : decode cX4_copy 85 = .ok (.invokevirtual 224, 3) := by decide +kernel
theorem dX4_copy_88 : decode cX4_copy 88 = .ok (.ifCond .eq 15, 3) := by decide +kernel
theorem dX4_copy_91 : decode cX4_copy 91 = .ok (.aload 7, 2) := by decide +kernel
theorem dX4_copy_93 : decode cX4_copy 93 = .ok (.iload 4, 2) := by decide +kernel
theorem dX4_copy_95 : decode cX4_copy 95 = .ok (.iload 5, 2) := by decide +kernel
theorem dX4_copy_97 : decode cX4_copy 97 = .ok (.invokevirtual 224, 3) := by decide +kernel
theorem dX4_copy_100 : decode cX4_copy 100 = .ok (.ifCond .ne 10, 3) := by decide +kernel
theorem dX4_copy_103 : decode cX4_copy 103 = .ok (.aload_n 0, 1) := by decide +kernel
theorem dX4_copy_104 : decode cX4_copy 104 = .ok (.ldc 56, 2) := by decide +kernel
theorem dX4_copy_106 : decode cX4_copy 106 = .ok (.invokevirtual 57, 3) := by decide +kernel
theorem dX4_copy_109 : decode cX4_copy 109 = .ok (.ireturn, 1) := by decide +kernel
theorem dX4_copy_110 : decode cX4_copy 110 = .ok (.aload 6, 2) := by decide +kernel
theorem dX4_copy_112 : decode cX4_copy 112 = .ok (.getfield 213, 3) := by decide +kernel
theorem dX4_copy_115 : decode cX4_copy 115 = .ok (.iload_n 2, 1) := by decide +kernel
theorem dX4_copy_116 : decode cX4_copy 116 = .ok (.aload 7, 2) := by decide +kernel
theorem dX4_copy_118 : decode cX4_copy 118 = .ok (.getfield 213, 3) := by decide +kernel
theorem dX4_copy_121 : decode cX4_copy 121 = .ok (.iload 4, 2) := by decide +kernel
theorem dX4_copy_123 : decode cX4_copy 123 = .ok (.iload 5, 2) := by decide +kernel
theorem dX4_copy_125 : decode cX4_copy 125 = .ok (.invokestatic 227, 3) := by decide +kernel
theorem dX4_copy_128 : decode cX4_copy 128 = .ok (.iload 5, 2) := by decide +kernel
theorem dX4_copy_130 : decode cX4_copy 130 = .ok (.ireturn, 1) := by decide +kernel
theorem dX4_lays_0 : decode cX4_lays 0 = .ok (.iload_n 1, 1) := by decide +kernel
theorem dX4_lays_1 : decode cX4_lays 1 = .ok (.invokestatic 201, 3) := by decide +kernel
theorem dX4_lays_4 : decode cX4_lays 4 = .ok (.ifCond .ne 10, 3) := by decide +kernel
theorem dX4_lays_7 : decode cX4_lays 7 = .ok (.aload_n 0, 1) := by decide +kernel
theorem dX4_lays_8 : decode cX4_lays 8 = .ok (.ldc 56, 2) := by decide +kernel
theorem dX4_lays_10 : decode cX4_lays 10 = .ok (.invokevirtual 57, 3) := by decide +kernel
theorem dX4_lays_13 : decode cX4_lays 13 = .ok (.ireturn, 1) := by decide +kernel
theorem dX4_lays_14 : decode cX4_lays 14 = .ok (.aload_n 0, 1) := by decide +kernel
theorem dX4_lays_15 : decode cX4_lays 15 = .ok (.getfield 35, 3) := by decide +kernel
theorem dX4_lays_18 : decode cX4_lays 18 = .ok (.iload_n 1, 1) := by decide +kernel
theorem dX4_lays_19 : decode cX4_lays 19 = .ok (.aaload, 1) := by decide +kernel
theorem dX4_lays_20 : decode cX4_lays 20 = .ok (.astore_n 2, 1) := by decide +kernel
theorem dX4_lays_21 : decode cX4_lays 21 = .ok (.aload_n 2, 1) := by decide +kernel
theorem dX4_lays_22 : decode cX4_lays 22 = .ok (.invokevirtual 209, 3) := by decide +kernel
theorem dX4_lays_25 : decode cX4_lays 25 = .ok (.ifCond .eq 10, 3) := by decide +kernel
theorem dX4_lays_28 : decode cX4_lays 28 = .ok (.aload_n 0, 1) := by decide +kernel
theorem dX4_lays_29 : decode cX4_lays 29 = .ok (.ldc 212, 2) := by decide +kernel
theorem dX4_lays_31 : decode cX4_lays 31 = .ok (.invokevirtual 57, 3) := by decide +kernel
theorem dX4_lays_34 : decode cX4_lays 34 = .ok (.ireturn, 1) := by decide +kernel
theorem dX4_lays_35 : decode cX4_lays 35 = .ok (.iconst 0, 1) := by decide +kernel
theorem dX4_lays_36 : decode cX4_lays 36 = .ok (.istore_n 3, 1) := by decide +kernel
theorem dX4_lays_37 : decode cX4_lays 37 = .ok (.iconst 0, 1) := by decide +kernel
theorem dX4_lays_38 : decode cX4_lays 38 = .ok (.istore 4, 2) := by decide +kernel
theorem dX4_lays_40 : decode cX4_lays 40 = .ok (.iload 4, 2) := by decide +kernel
theorem dX4_lays_42 : decode cX4_lays 42 = .ok (.aload_n 2, 1) := by decide +kernel
theorem dX4_lays_43 : decode cX4_lays 43 = .ok (.getfield 208, 3) := by decide +kernel
theorem dX4_lays_46 : decode cX4_lays 46 = .ok (.if_icmp .ge 57, 3) := by decide +kernel
theorem dX4_lays_49 : decode cX4_lays 49 = .ok (.iload 4, 2) := by decide +kernel
theorem dX4_lays_51 : decode cX4_lays 51 = .ok (.bipush 8, 2) := by decide +kernel
theorem dX4_lays_53 : decode cX4_lays 53 = .ok (.if_icmp .ge 50, 3) := by decide +kernel
theorem dX4_lays_56 : decode cX4_lays 56 = .ok (.aload_n 2, 1) := by decide +kernel
theorem dX4_lays_57 : decode cX4_lays 57 = .ok (.getfield 213, 3) := by decide +kernel
theorem dX4_lays_60 : decode cX4_lays 60 = .ok (.iload 4, 2) := by decide +kernel
theorem dX4_lays_62 : decode cX4_lays 62 = .ok (.laload, 1) := by decide +kernel
theorem dX4_lays_63 : decode cX4_lays 63 = .ok (.lstore 5, 2) := by decide +kernel
theorem dX4_lays_65 : decode cX4_lays 65 = .ok (.lload 5, 2) := by decide +kernel
theorem dX4_lays_67 : decode cX4_lays 67 = .ok (.lconst 0, 1) := by decide +kernel
theorem dX4_lays_68 : decode cX4_lays 68 = .ok (.lcmp, 1) := by decide +kernel
theorem dX4_lays_69 : decode cX4_lays 69 = .ok (.ifCond .lt 28, 3) := by decide +kernel
theorem dX4_lays_72 : decode cX4_lays 72 = .ok (.lload 5, 2) := by decide +kernel
theorem dX4_lays_74 : decode cX4_lays 74 = .ok (.ldc2_w 233, 3) := by decide +kernel
theorem dX4_lays_77 : decode cX4_lays 77 = .ok (.lcmp, 1) := by decide +kernel
theorem dX4_lays_78 : decode cX4_lays 78 = .ok (.ifCond .gt 19, 3) := by decide +kernel
theorem dX4_lays_81 : decode cX4_lays 81 = .ok (.aload_n 0, 1) := by decide +kernel
theorem dX4_lays_82 : decode cX4_lays 82 = .ok (.getfield 10, 3) := by decide +kernel
theorem dX4_lays_85 : decode cX4_lays 85 = .ok (.getfield 66, 3) := by decide +kernel
theorem dX4_lays_88 : decode cX4_lays 88 = .ok (.iload 4, 2) := by decide +kernel
theorem dX4_lays_90 : decode cX4_lays 90 = .ok (.lload 5, 2) := by decide +kernel
theorem dX4_lays_92 : decode cX4_lays 92 = .ok (.l2i, 1) := by decide +kernel
theorem dX4_lays_93 : decode cX4_lays 93 = .ok (.iastore, 1) := by decide +kernel
theorem dX4_lays_94 : decode cX4_lays 94 = .ok (.iinc 3 1, 3) := by decide +kernel
theorem dX4_lays_97 : decode cX4_lays 97 = .ok (.iinc 4 1, 3) := by decide +kernel
theorem dX4_lays_100 : decode cX4_lays 100 = .ok (.goto (-60), 3) := by decide +kernel
theorem dX4_lays_103 : decode cX4_lays 103 = .ok (.iload_n 3, 1) := by decide +kernel
theorem dX4_lays_104 : decode cX4_lays 104 = .ok (.ireturn, 1) := by decide +kernel
theorem dX4_book_0 : decode cX4_book 0 = .ok (.aload_n 0, 1) := by decide +kernel
theorem dX4_book_1 : decode cX4_book 1 = .ok (.iload_n 1, 1) := by decide +kernel
theorem dX4_book_2 : decode cX4_book 2 = .ok (.iload_n 2, 1) := by decide +kernel
theorem dX4_book_3 : decode cX4_book 3 = .ok (.invokevirtual 235, 3) := by decide +kernel
theorem dX4_book_6 : decode cX4_book 6 = .ok (.istore_n 3, 1) := by decide +kernel
theorem dX4_book_7 : decode cX4_book 7 = .ok (.iload_n 3, 1) := by decide +kernel
theorem dX4_book_8 : decode cX4_book 8 = .ok (.ifCond .eq 9, 3) := by decide +kernel
theorem dX4_book_11 : decode cX4_book 11 = .ok (.aload_n 0, 1) := by decide +kernel
theorem dX4_book_12 : decode cX4_book 12 = .ok (.iload_n 3, 1) := by decide +kernel
theorem dX4_book_13 : decode cX4_book 13 = .ok (.invokevirtual 57, 3) := by decide +kernel
theorem dX4_book_16 : decode cX4_book 16 = .ok (.ireturn, 1) := by decide +kernel
theorem dX4_book_17 : decode cX4_book 17 = .ok (.aload_n 0, 1) := by decide +kernel
theorem dX4_book_18 : decode cX4_book 18 = .ok (.getfield 35, 3) := by decide +kernel
theorem dX4_book_21 : decode cX4_book 21 = .ok (.iload_n 1, 1) := by decide +kernel
theorem dX4_book_22 : decode cX4_book 22 = .ok (.aaload, 1) := by decide +kernel
theorem dX4_book_23 : decode cX4_book 23 = .ok (.astore 4, 2) := by decide +kernel
theorem dX4_book_25 : decode cX4_book 25 = .ok (.aload_n 0, 1) := by decide +kernel
theorem dX4_book_26 : decode cX4_book 26 = .ok (.getfield 16, 3) := by decide +kernel
theorem dX4_book_29 : decode cX4_book 29 = .ok (.aload_n 0, 1) := by decide +kernel
theorem dX4_book_30 : decode cX4_book 30 = .ok (.getfield 10, 3) := by decide +kernel
theorem dX4_book_33 : decode cX4_book 33 = .ok (.invokevirtual 177, 3) := by decide +kernel
theorem dX4_book_36 : decode cX4_book 36 = .ok (.iconst 0, 1) := by decide +kernel
theorem dX4_book_37 : decode cX4_book 37 = .ok (.istore 5, 2) := by decide +kernel
theorem dX4_book_39 : decode cX4_book 39 = .ok (.iload 5, 2) := by decide +kernel
theorem dX4_book_41 : decode cX4_book 41 = .ok (.aload 4, 2) := by decide +kernel
theorem dX4_book_43 : decode cX4_book 43 = .ok (.getfield 208, 3) := by decide +kernel
theorem dX4_book_46 : decode cX4_book 46 = .ok (.if_icmp .ge 33, 3) := by decide +kernel
theorem dX4_book_49 : decode cX4_book 49 = .ok (.aload 4, 2) := by decide +kernel
theorem dX4_book_51 : decode cX4_book 51 = .ok (.iload 5, 2) := by decide +kernel
theorem dX4_book_53 : decode cX4_book 53 = .ok (.aload_n 0, 1) := by decide +kernel
theorem dX4_book_54 : decode cX4_book 54 = .ok (.getfield 16, 3) := by decide +kernel
theorem dX4_book_57 : decode cX4_book 57 = .ok (.getfield 63, 3) := by decide +kernel
theorem dX4_book_60 : decode cX4_book 60 = .ok (.iload_n 2, 1) := by decide +kernel
theorem dX4_book_61 : decode cX4_book 61 = .ok (.iaload, 1) := by decide +kernel
theorem dX4_book_62 : decode cX4_book 62 = .ok (.i2l, 1) := by decide +kernel
theorem dX4_book_63 : decode cX4_book 63 = .ok (.invokevirtual 217, 3) := by decide +kernel
theorem dX4_book_66 : decode cX4_book 66 = .ok (.aload_n 0, 1) := by decide +kernel
theorem dX4_book_67 : decode cX4_book 67 = .ok (.getfield 16, 3) := by decide +kernel
theorem dX4_book_70 : decode cX4_book 70 = .ok (.invokevirtual 181, 3) := by decide +kernel
theorem dX4_book_73 : decode cX4_book 73 = .ok (.iinc 5 1, 3) := by decide +kernel
theorem dX4_book_76 : decode cX4_book 76 = .ok (.goto (-37), 3) := by decide +kernel
theorem dX4_book_79 : decode cX4_book 79 = .ok (.aload 4, 2) := by decide +kernel
theorem dX4_book_81 : decode cX4_book 81 = .ok (.getfield 208, 3) := by decide +kernel
theorem dX4_book_84 : decode cX4_book 84 = .ok (.ireturn, 1) := by decide +kernel
theorem dX4_read_0 : decode cX4_read 0 = .ok (.aload_n 0, 1) := by decide +kernel
theorem dX4_read_1 : decode cX4_read 1 = .ok (.iload_n 1, 1) := by decide +kernel
theorem dX4_read_2 : decode cX4_read 2 = .ok (.iload_n 2, 1) := by decide +kernel
theorem dX4_read_3 : decode cX4_read 3 = .ok (.invokevirtual 235, 3) := by decide +kernel
theorem dX4_read_6 : decode cX4_read 6 = .ok (.istore_n 3, 1) := by decide +kernel
theorem dX4_read_7 : decode cX4_read 7 = .ok (.iload_n 3, 1) := by decide +kernel
theorem dX4_read_8 : decode cX4_read 8 = .ok (.ifCond .eq 9, 3) := by decide +kernel
theorem dX4_read_11 : decode cX4_read 11 = .ok (.aload_n 0, 1) := by decide +kernel
theorem dX4_read_12 : decode cX4_read 12 = .ok (.iload_n 3, 1) := by decide +kernel
theorem dX4_read_13 : decode cX4_read 13 = .ok (.invokevirtual 57, 3) := by decide +kernel
theorem dX4_read_16 : decode cX4_read 16 = .ok (.ireturn, 1) := by decide +kernel
theorem dX4_read_17 : decode cX4_read 17 = .ok (.iconst 0, 1) := by decide +kernel
theorem dX4_read_18 : decode cX4_read 18 = .ok (.istore 4, 2) := by decide +kernel
theorem dX4_read_20 : decode cX4_read 20 = .ok (.iconst 0, 1) := by decide +kernel
theorem dX4_read_21 : decode cX4_read 21 = .ok (.istore 5, 2) := by decide +kernel
theorem dX4_read_23 : decode cX4_read 23 = .ok (.iload 5, 2) := by decide +kernel
theorem dX4_read_25 : decode cX4_read 25 = .ok (.aload_n 0, 1) := by decide +kernel
theorem dX4_read_26 : decode cX4_read 26 = .ok (.getfield 10, 3) := by decide +kernel
theorem dX4_read_29 : decode cX4_read 29 = .ok (.getfield 160, 3) := by decide +kernel
theorem dX4_read_32 : decode cX4_read 32 = .ok (.if_icmp .ge 82, 3) := by decide +kernel
theorem dX4_read_35 : decode cX4_read 35 = .ok (.aload_n 0, 1) := by decide +kernel
theorem dX4_read_36 : decode cX4_read 36 = .ok (.getfield 10, 3) := by decide +kernel
theorem dX4_read_39 : decode cX4_read 39 = .ok (.getfield 108, 3) := by decide +kernel
theorem dX4_read_42 : decode cX4_read 42 = .ok (.iload 5, 2) := by decide +kernel
theorem dX4_read_44 : decode cX4_read 44 = .ok (.iaload, 1) := by decide +kernel
theorem dX4_read_45 : decode cX4_read 45 = .ok (.iload_n 2, 1) := by decide +kernel
theorem dX4_read_46 : decode cX4_read 46 = .ok (.if_icmp .eq 6, 3) := by decide +kernel
theorem dX4_read_49 : decode cX4_read 49 = .ok (.goto 59, 3) := by decide +kernel
theorem dX4_read_52 : decode cX4_read 52 = .ok (.iconst 0, 1) := by decide +kernel
theorem dX4_read_53 : decode cX4_read 53 = .ok (.istore 6, 2) := by decide +kernel
theorem dX4_read_55 : decode cX4_read 55 = .ok (.iload 6, 2) := by decide +kernel
theorem dX4_read_57 : decode cX4_read 57 = .ok (.bipush 6, 2) := by decide +kernel
theorem dX4_read_59 : decode cX4_read 59 = .ok (.if_icmp .ge 49, 3) := by decide +kernel
theorem dX4_read_62 : decode cX4_read 62 = .ok (.aload_n 0, 1) := by decide +kernel
theorem dX4_read_63 : decode cX4_read 63 = .ok (.getfield 16, 3) := by decide +kernel
theorem dX4_read_66 : decode cX4_read 66 = .ok (.aload_n 0, 1) := by decide +kernel
theorem dX4_read_67 : decode cX4_read 67 = .ok (.getfield 10, 3) := by decide +kernel
theorem dX4_read_70 : decode cX4_read 70 = .ok (.invokevirtual 177, 3) := by decide +kernel
theorem dX4_read_73 : decode cX4_read 73 = .ok (.aload_n 0, 1) := by decide +kernel
theorem dX4_read_74 : decode cX4_read 74 = .ok (.getfield 16, 3) := by decide +kernel
theorem dX4_read_77 : decode cX4_read 77 = .ok (.getfield 96, 3) := by decide +kernel
theorem dX4_read_80 : decode cX4_read 80 = .ok (.iload 5, 2) := by decide +kernel
theorem dX4_read_82 : decode cX4_read 82 = .ok (.iload 6, 2) := by decide +kernel
theorem dX4_read_84 : decode cX4_read 84 = .ok (.iastore, 1) := by decide +kernel
theorem dX4_read_85 : decode cX4_read 85 = .ok (.aload_n 0, 1) := by decide +kernel
theorem dX4_read_86 : decode cX4_read 86 = .ok (.aload_n 0, 1) := by decide +kernel
theorem dX4_read_87 : decode cX4_read 87 = .ok (.getfield 35, 3) := by decide +kernel
theorem dX4_read_90 : decode cX4_read 90 = .ok (.iload_n 1, 1) := by decide +kernel
theorem dX4_read_91 : decode cX4_read 91 = .ok (.aaload, 1) := by decide +kernel
theorem dX4_read_92 : decode cX4_read 92 = .ok (.iload_n 2, 1) := by decide +kernel
theorem dX4_read_93 : decode cX4_read 93 = .ok (.invokevirtual 239, 3) := by decide +kernel
theorem dX4_read_96 : decode cX4_read 96 = .ok (.ifCond .eq 6, 3) := by decide +kernel
theorem dX4_read_99 : decode cX4_read 99 = .ok (.iinc 4 1, 3) := by decide +kernel
theorem dX4_read_102 : decode cX4_read 102 = .ok (.iinc 6 1, 3) := by decide +kernel
theorem dX4_read_105 : decode cX4_read 105 = .ok (.goto (-50), 3) := by decide +kernel
theorem dX4_read_108 : decode cX4_read 108 = .ok (.iinc 5 1, 3) := by decide +kernel
theorem dX4_read_111 : decode cX4_read 111 = .ok (.goto (-88), 3) := by decide +kernel
theorem dX4_read_114 : decode cX4_read 114 = .ok (.iload 4, 2) := by decide +kernel
theorem dX4_read_116 : decode cX4_read 116 = .ok (.ireturn, 1) := by decide +kernel
theorem dX4_image_0 : decode cX4_image 0 = .ok (.aload_n 0, 1) := by decide +kernel
theorem dX4_image_1 : decode cX4_image 1 = .ok (.getfield 19, 3) := by decide +kernel
theorem dX4_image_4 : decode cX4_image 4 = .ok (.aload_n 0, 1) := by decide +kernel
theorem dX4_image_5 : decode cX4_image 5 = .ok (.getfield 10, 3) := by decide +kernel
theorem dX4_image_8 : decode cX4_image 8 = .ok (.invokevirtual 177, 3) := by decide +kernel
theorem dX4_image_11 : decode cX4_image 11 = .ok (.aload_n 0, 1) := by decide +kernel
theorem dX4_image_12 : decode cX4_image 12 = .ok (.iconst 1, 1) := by decide +kernel
theorem dX4_image_13 : decode cX4_image 13 = .ok (.putfield 22, 3) := by decide +kernel
theorem dX4_image_16 : decode cX4_image 16 = .ok (.iconst 1, 1) := by decide +kernel
theorem dX4_image_17 : decode cX4_image 17 = .ok (.ireturn, 1) := by decide +kernel
theorem dX4_undo_0 : decode cX4_undo 0 = .ok (.aload_n 0, 1) := by decide +kernel
theorem dX4_undo_1 : decode cX4_undo 1 = .ok (.getfield 22, 3) := by decide +kernel
theorem dX4_undo_4 : decode cX4_undo 4 = .ok (.ifCond .ne 10, 3) := by decide +kernel
theorem dX4_undo_7 : decode cX4_undo 7 = .ok (.aload_n 0, 1) := by decide +kernel
theorem dX4_undo_8 : decode cX4_undo 8 = .ok (.ldc 184, 2) := by decide +kernel
theorem dX4_undo_10 : decode cX4_undo 10 = .ok (.invokevirtual 57, 3) := by decide +kernel
theorem dX4_undo_13 : decode cX4_undo 13 = .ok (.ireturn, 1) := by decide +kernel
theorem dX4_undo_14 : decode cX4_undo 14 = .ok (.aload_n 0, 1) := by decide +kernel
theorem dX4_undo_15 : decode cX4_undo 15 = .ok (.getfield 10, 3) := by decide +kernel
theorem dX4_undo_18 : decode cX4_undo 18 = .ok (.aload_n 0, 1) := by decide +kernel
theorem dX4_undo_19 : decode cX4_undo 19 = .ok (.getfield 19, 3) := by decide +kernel
theorem dX4_undo_22 : decode cX4_undo 22 = .ok (.invokevirtual 177, 3) := by decide +kernel
theorem dX4_undo_25 : decode cX4_undo 25 = .ok (.aload_n 0, 1) := by decide +kernel
theorem dX4_undo_26 : decode cX4_undo 26 = .ok (.getfield 10, 3) := by decide +kernel
theorem dX4_undo_29 : decode cX4_undo 29 = .ok (.getfield 160, 3) := by decide +kernel
theorem dX4_undo_32 : decode cX4_undo 32 = .ok (.ireturn, 1) := by decide +kernel
theorem dX4_tear_0 : decode cX4_tear 0 = .ok (.aload_n 0, 1) := by decide +kernel
theorem dX4_tear_1 : decode cX4_tear 1 = .ok (.getfield 22, 3) := by decide +kernel
theorem dX4_tear_4 : decode cX4_tear 4 = .ok (.ifCond .eq 7, 3) := by decide +kernel
theorem dX4_tear_7 : decode cX4_tear 7 = .ok (.iconst 1, 1) := by decide +kernel
theorem dX4_tear_8 : decode cX4_tear 8 = .ok (.goto 4, 3) := by decide +kernel
theorem dX4_tear_11 : decode cX4_tear 11 = .ok (.iconst 0, 1) := by decide +kernel
theorem dX4_tear_12 : decode cX4_tear 12 = .ok (.istore_n 1, 1) := by decide +kernel
theorem dX4_tear_13 : decode cX4_tear 13 = .ok (.aload_n 0, 1) := by decide +kernel
theorem dX4_tear_14 : decode cX4_tear 14 = .ok (.iconst 0, 1) := by decide +kernel
theorem dX4_tear_15 : decode cX4_tear 15 = .ok (.putfield 22, 3) := by decide +kernel
theorem dX4_tear_18 : decode cX4_tear 18 = .ok (.iload_n 1, 1) := by decide +kernel
theorem dX4_tear_19 : decode cX4_tear 19 = .ok (.ireturn, 1) := by decide +kernel
theorem dX4_count_0 : decode cX4_count 0 = .ok (.iload_n 1, 1) := by decide +kernel
theorem dX4_count_1 : decode cX4_count 1 = .ok (.tableswitch 69 0 3 #[31, 39, 47, 58], 31) := by decide +kernel
theorem dX4_count_32 : decode cX4_count 32 = .ok (.aload_n 0, 1) := by decide +kernel
theorem dX4_count_33 : decode cX4_count 33 = .ok (.getfield 10, 3) := by decide +kernel
theorem dX4_count_36 : decode cX4_count 36 = .ok (.getfield 160, 3) := by decide +kernel
theorem dX4_count_39 : decode cX4_count 39 = .ok (.ireturn, 1) := by decide +kernel
theorem dX4_count_40 : decode cX4_count 40 = .ok (.aload_n 0, 1) := by decide +kernel
theorem dX4_count_41 : decode cX4_count 41 = .ok (.getfield 29, 3) := by decide +kernel
theorem dX4_count_44 : decode cX4_count 44 = .ok (.getfield 191, 3) := by decide +kernel
theorem dX4_count_47 : decode cX4_count 47 = .ok (.ireturn, 1) := by decide +kernel
theorem dX4_count_48 : decode cX4_count 48 = .ok (.aload_n 0, 1) := by decide +kernel
theorem dX4_count_49 : decode cX4_count 49 = .ok (.getfield 10, 3) := by decide +kernel
theorem dX4_count_52 : decode cX4_count 52 = .ok (.getfield 243, 3) := by decide +kernel
theorem dX4_count_55 : decode cX4_count 55 = .ok (.invokestatic 167, 3) := by decide +kernel
theorem dX4_count_58 : decode cX4_count 58 = .ok (.ireturn, 1) := by decide +kernel
theorem dX4_count_59 : decode cX4_count 59 = .ok (.aload_n 0, 1) := by decide +kernel
theorem dX4_count_60 : decode cX4_count 60 = .ok (.getfield 10, 3) := by decide +kernel
theorem dX4_count_63 : decode cX4_count 63 = .ok (.getfield 60, 3) := by decide +kernel
theorem dX4_count_66 : decode cX4_count 66 = .ok (.invokestatic 167, 3) := by decide +kernel
theorem dX4_count_69 : decode cX4_count 69 = .ok (.ireturn, 1) := by decide +kernel
theorem dX4_count_70 : decode cX4_count 70 = .ok (.aload_n 0, 1) := by decide +kernel
theorem dX4_count_71 : decode cX4_count 71 = .ok (.ldc 56, 2) := by decide +kernel
theorem dX4_count_73 : decode cX4_count 73 = .ok (.invokevirtual 57, 3) := by decide +kernel
theorem dX4_count_76 : decode cX4_count 76 = .ok (.ireturn, 1) := by decide +kernel
theorem dX4_status_0 : decode cX4_status 0 = .ok (.iload_n 1, 1) := by decide +kernel
theorem dX4_status_1 : decode cX4_status 1 = .ok (.iconst (-1), 1) := by decide +kernel
theorem dX4_status_2 : decode cX4_status 2 = .ok (.if_icmp .ne 11, 3) := by decide +kernel
theorem dX4_status_5 : decode cX4_status 5 = .ok (.aload_n 0, 1) := by decide +kernel
theorem dX4_status_6 : decode cX4_status 6 = .ok (.getfield 39, 3) := by decide +kernel
theorem dX4_status_9 : decode cX4_status 9 = .ok (.invokestatic 167, 3) := by decide +kernel
theorem dX4_status_12 : decode cX4_status 12 = .ok (.ireturn, 1) := by decide +kernel
theorem dX4_status_13 : decode cX4_status 13 = .ok (.iload_n 1, 1) := by decide +kernel
theorem dX4_status_14 : decode cX4_status 14 = .ok (.ifCond .lt 9, 3) := by decide +kernel
theorem dX4_status_17 : decode cX4_status 17 = .ok (.iload_n 1, 1) := by decide +kernel
theorem dX4_status_18 : decode cX4_status 18 = .ok (.bipush 7, 2) := by decide +kernel
theorem dX4_status_20 : decode cX4_status 20 = .ok (.if_icmp .lt 10, 3) := by decide +kernel
theorem dX4_status_23 : decode cX4_status 23 = .ok (.aload_n 0, 1) := by decide +kernel
theorem dX4_status_24 : decode cX4_status 24 = .ok (.ldc 56, 2) := by decide +kernel
theorem dX4_status_26 : decode cX4_status 26 = .ok (.invokevirtual 57, 3) := by decide +kernel
theorem dX4_status_29 : decode cX4_status 29 = .ok (.ireturn, 1) := by decide +kernel
theorem dX4_status_30 : decode cX4_status 30 = .ok (.aload_n 0, 1) := by decide +kernel
theorem dX4_status_31 : decode cX4_status 31 = .ok (.getfield 39, 3) := by decide +kernel
theorem dX4_status_34 : decode cX4_status 34 = .ok (.iload_n 1, 1) := by decide +kernel
theorem dX4_status_35 : decode cX4_status 35 = .ok (.iaload, 1) := by decide +kernel
theorem dX4_status_36 : decode cX4_status 36 = .ok (.ireturn, 1) := by decide +kernel
theorem dX4_finding_0 : decode cX4_finding 0 = .ok (.ldc 56, 2) := by decide +kernel
theorem dX4_finding_2 : decode cX4_finding 2 = .ok (.iload_n 1, 1) := by decide +kernel
theorem dX4_finding_3 : decode cX4_finding 3 = .ok (.isub, 1) := by decide +kernel
theorem dX4_finding_4 : decode cX4_finding 4 = .ok (.istore_n 2, 1) := by decide +kernel
theorem dX4_finding_5 : decode cX4_finding 5 = .ok (.iload_n 2, 1) := by decide +kernel
theorem dX4_finding_6 : decode cX4_finding 6 = .ok (.ifCond .lt 19, 3) := by decide +kernel
theorem dX4_finding_9 : decode cX4_finding 9 = .ok (.iload_n 2, 1) := by decide +kernel
theorem dX4_finding_10 : decode cX4_finding 10 = .ok (.bipush 7, 2) := by decide +kernel
theorem dX4_finding_12 : decode cX4_finding 12 = .ok (.if_icmp .ge 13, 3) := by decide +kernel
theorem dX4_finding_15 : decode cX4_finding 15 = .ok (.aload_n 0, 1) := by decide +kernel
theorem dX4_finding_16 : decode cX4_finding 16 = .ok (.getfield 39, 3) := by decide +kernel
theorem dX4_finding_19 : decode cX4_finding 19 = .ok (.iload_n 2, 1) := by decide +kernel
theorem dX4_finding_20 : decode cX4_finding 20 = .ok (.dup2, 1) := by decide +kernel
theorem dX4_finding_21 : decode cX4_finding 21 = .ok (.iaload, 1) := by decide +kernel
theorem dX4_finding_22 : decode cX4_finding 22 = .ok (.iconst 1, 1) := by decide +kernel
theorem dX4_finding_23 : decode cX4_finding 23 = .ok (.iadd, 1) := by decide +kernel
theorem dX4_finding_24 : decode cX4_finding 24 = .ok (.iastore, 1) := by decide +kernel
theorem dX4_finding_25 : decode cX4_finding 25 = .ok (.iload_n 1, 1) := by decide +kernel
theorem dX4_finding_26 : decode cX4_finding 26 = .ok (.ireturn, 1) := by decide +kernel
theorem dX4_isWithin_0 : decode cX4_isWithin 0 = .ok (.iload_n 0, 1) := by decide +kernel
theorem dX4_isWithin_1 : decode cX4_isWithin 1 = .ok (.ifCond .lt 12, 3) := by decide +kernel
theorem dX4_isWithin_4 : decode cX4_isWithin 4 = .ok (.iload_n 0, 1) := by decide +kernel
theorem dX4_isWithin_5 : decode cX4_isWithin 5 = .ok (.iload_n 1, 1) := by decide +kernel
theorem dX4_isWithin_6 : decode cX4_isWithin 6 = .ok (.if_icmp .gt 7, 3) := by decide +kernel
theorem dX4_isWithin_9 : decode cX4_isWithin 9 = .ok (.iconst 1, 1) := by decide +kernel
theorem dX4_isWithin_10 : decode cX4_isWithin 10 = .ok (.goto 4, 3) := by decide +kernel
theorem dX4_isWithin_13 : decode cX4_isWithin 13 = .ok (.iconst 0, 1) := by decide +kernel
theorem dX4_isWithin_14 : decode cX4_isWithin 14 = .ok (.ireturn, 1) := by decide +kernel
theorem dX4_isHouse_0 : decode cX4_isHouse 0 = .ok (.iload_n 0, 1) := by decide +kernel
theorem dX4_isHouse_1 : decode cX4_isHouse 1 = .ok (.ifCond .lt 13, 3) := by decide +kernel
theorem dX4_isHouse_4 : decode cX4_isHouse 4 = .ok (.iload_n 0, 1) := by decide +kernel
theorem dX4_isHouse_5 : decode cX4_isHouse 5 = .ok (.bipush 8, 2) := by decide +kernel
theorem dX4_isHouse_7 : decode cX4_isHouse 7 = .ok (.if_icmp .ge 7, 3) := by decide +kernel
theorem dX4_isHouse_10 : decode cX4_isHouse 10 = .ok (.iconst 1, 1) := by decide +kernel
theorem dX4_isHouse_11 : decode cX4_isHouse 11 = .ok (.goto 4, 3) := by decide +kernel
theorem dX4_isHouse_14 : decode cX4_isHouse 14 = .ok (.iconst 0, 1) := by decide +kernel
theorem dX4_isHouse_15 : decode cX4_isHouse 15 = .ok (.ireturn, 1) := by decide +kernel
theorem dX4_isKind_0 : decode cX4_isKind 0 = .ok (.iload_n 0, 1) := by decide +kernel
theorem dX4_isKind_1 : decode cX4_isKind 1 = .ok (.ifCond .lt 13, 3) := by decide +kernel
theorem dX4_isKind_4 : decode cX4_isKind 4 = .ok (.iload_n 0, 1) := by decide +kernel
theorem dX4_isKind_5 : decode cX4_isKind 5 = .ok (.bipush 6, 2) := by decide +kernel
theorem dX4_isKind_7 : decode cX4_isKind 7 = .ok (.if_icmp .ge 7, 3) := by decide +kernel
theorem dX4_isKind_10 : decode cX4_isKind 10 = .ok (.iconst 1, 1) := by decide +kernel
theorem dX4_isKind_11 : decode cX4_isKind 11 = .ok (.goto 4, 3) := by decide +kernel
theorem dX4_isKind_14 : decode cX4_isKind 14 = .ok (.iconst 0, 1) := by decide +kernel
theorem dX4_isKind_15 : decode cX4_isKind 15 = .ok (.ireturn, 1) := by decide +kernel
theorem dX4_isEvent_0 : decode cX4_isEvent 0 = .ok (.iload_n 0, 1) := by decide +kernel
theorem dX4_isEvent_1 : decode cX4_isEvent 1 = .ok (.ifCond .lt 13, 3) := by decide +kernel
theorem dX4_isEvent_4 : decode cX4_isEvent 4 = .ok (.iload_n 0, 1) := by decide +kernel
theorem dX4_isEvent_5 : decode cX4_isEvent 5 = .ok (.bipush 16, 2) := by decide +kernel
theorem dX4_isEvent_7 : decode cX4_isEvent 7 = .ok (.if_icmp .ge 7, 3) := by decide +kernel
theorem dX4_isEvent_10 : decode cX4_isEvent 10 = .ok (.iconst 1, 1) := by decide +kernel
theorem dX4_isEvent_11 : decode cX4_isEvent 11 = .ok (.goto 4, 3) := by decide +kernel
theorem dX4_isEvent_14 : decode cX4_isEvent 14 = .ok (.iconst 0, 1) := by decide +kernel
theorem dX4_isEvent_15 : decode cX4_isEvent 15 = .ok (.ireturn, 1) := by decide +kernel
theorem dX4_isSheet_0 : decode cX4_isSheet 0 = .ok (.iload_n 0, 1) := by decide +kernel
theorem dX4_isSheet_1 : decode cX4_isSheet 1 = .ok (.ifCond .lt 12, 3) := by decide +kernel
theorem dX4_isSheet_4 : decode cX4_isSheet 4 = .ok (.iload_n 0, 1) := by decide +kernel
theorem dX4_isSheet_5 : decode cX4_isSheet 5 = .ok (.iconst 4, 1) := by decide +kernel
theorem dX4_isSheet_6 : decode cX4_isSheet 6 = .ok (.if_icmp .ge 7, 3) := by decide +kernel
theorem dX4_isSheet_9 : decode cX4_isSheet 9 = .ok (.iconst 1, 1) := by decide +kernel
theorem dX4_isSheet_10 : decode cX4_isSheet 10 = .ok (.goto 4, 3) := by decide +kernel
theorem dX4_isSheet_13 : decode cX4_isSheet 13 = .ok (.iconst 0, 1) := by decide +kernel
theorem dX4_isSheet_14 : decode cX4_isSheet 14 = .ok (.ireturn, 1) := by decide +kernel
theorem dX4_isRumour_0 : decode cX4_isRumour 0 = .ok (.iload_n 1, 1) := by decide +kernel
theorem dX4_isRumour_1 : decode cX4_isRumour 1 = .ok (.ifCond .lt 18, 3) := by decide +kernel
theorem dX4_isRumour_4 : decode cX4_isRumour 4 = .ok (.iload_n 1, 1) := by decide +kernel
theorem dX4_isRumour_5 : decode cX4_isRumour 5 = .ok (.aload_n 0, 1) := by decide +kernel
theorem dX4_isRumour_6 : decode cX4_isRumour 6 = .ok (.getfield 10, 3) := by decide +kernel
theorem dX4_isRumour_9 : decode cX4_isRumour 9 = .ok (.getfield 160, 3) := by decide +kernel
theorem dX4_isRumour_12 : decode cX4_isRumour 12 = .ok (.if_icmp .ge 7, 3) := by decide +kernel
theorem dX4_isRumour_15 : decode cX4_isRumour 15 = .ok (.iconst 1, 1) := by decide +kernel
theorem dX4_isRumour_16 : decode cX4_isRumour 16 = .ok (.goto 4, 3) := by decide +kernel
theorem dX4_isRumour_19 : decode cX4_isRumour 19 = .ok (.iconst 0, 1) := by decide +kernel
theorem dX4_isRumour_20 : decode cX4_isRumour 20 = .ok (.ireturn, 1) := by decide +kernel
theorem dX4_mostOfHouse_0 : decode cX4_mostOfHouse 0 = .ok (.iload_n 0, 1) := by decide +kernel
theorem dX4_mostOfHouse_1 : decode cX4_mostOfHouse 1 = .ok (.tableswitch 36 0 2 #[27, 29, 33], 27) := by decide +kernel
theorem dX4_mostOfHouse_28 : decode cX4_mostOfHouse 28 = .ok (.iconst 3, 1) := by decide +kernel
theorem dX4_mostOfHouse_29 : decode cX4_mostOfHouse 29 = .ok (.ireturn, 1) := by decide +kernel
theorem dX4_mostOfHouse_30 : decode cX4_mostOfHouse 30 = .ok (.sipush 999, 3) := by decide +kernel
theorem dX4_mostOfHouse_33 : decode cX4_mostOfHouse 33 = .ok (.ireturn, 1) := by decide +kernel
theorem dX4_mostOfHouse_34 : decode cX4_mostOfHouse 34 = .ok (.bipush 9, 2) := by decide +kernel
theorem dX4_mostOfHouse_36 : decode cX4_mostOfHouse 36 = .ok (.ireturn, 1) := by decide +kernel
theorem dX4_mostOfHouse_37 : decode cX4_mostOfHouse 37 = .ok (.iconst (-1), 1) := by decide +kernel
theorem dX4_mostOfHouse_38 : decode cX4_mostOfHouse 38 = .ok (.ireturn, 1) := by decide +kernel
theorem dX4_mostOfRumour_0 : decode cX4_mostOfRumour 0 = .ok (.iload_n 0, 1) := by decide +kernel
theorem dX4_mostOfRumour_1 : decode cX4_mostOfRumour 1 = .ok (.tableswitch 37 1 3 #[27, 30, 33], 27) := by decide +kernel
theorem dX4_mostOfRumour_28 : decode cX4_mostOfRumour 28 = .ok (.bipush 15, 2) := by decide +kernel
theorem dX4_mostOfRumour_30 : decode cX4_mostOfRumour 30 = .ok (.ireturn, 1) := by decide +kernel
theorem dX4_mostOfRumour_31 : decode cX4_mostOfRumour 31 = .ok (.bipush 99, 2) := by decide +kernel
theorem dX4_mostOfRumour_33 : decode cX4_mostOfRumour 33 = .ok (.ireturn, 1) := by decide +kernel
theorem dX4_mostOfRumour_34 : decode cX4_mostOfRumour 34 = .ok (.sipush 999, 3) := by decide +kernel
theorem dX4_mostOfRumour_37 : decode cX4_mostOfRumour 37 = .ok (.ireturn, 1) := by decide +kernel
theorem dX4_mostOfRumour_38 : decode cX4_mostOfRumour 38 = .ok (.iconst (-1), 1) := by decide +kernel
theorem dX4_mostOfRumour_39 : decode cX4_mostOfRumour 39 = .ok (.ireturn, 1) := by decide +kernel
theorem dX4_sumOf_0 : decode cX4_sumOf 0 = .ok (.iconst 0, 1) := by decide +kernel
theorem dX4_sumOf_1 : decode cX4_sumOf 1 = .ok (.istore_n 1, 1) := by decide +kernel
theorem dX4_sumOf_2 : decode cX4_sumOf 2 = .ok (.iconst 0, 1) := by decide +kernel
theorem dX4_sumOf_3 : decode cX4_sumOf 3 = .ok (.istore_n 2, 1) := by decide +kernel
theorem dX4_sumOf_4 : decode cX4_sumOf 4 = .ok (.iload_n 2, 1) := by decide +kernel
theorem dX4_sumOf_5 : decode cX4_sumOf 5 = .ok (.aload_n 0, 1) := by decide +kernel
theorem dX4_sumOf_6 : decode cX4_sumOf 6 = .ok (.arraylength, 1) := by decide +kernel
theorem dX4_sumOf_7 : decode cX4_sumOf 7 = .ok (.if_icmp .ge 15, 3) := by decide +kernel
theorem dX4_sumOf_10 : decode cX4_sumOf 10 = .ok (.iload_n 1, 1) := by decide +kernel
theorem dX4_sumOf_11 : decode cX4_sumOf 11 = .ok (.aload_n 0, 1) := by decide +kernel
theorem dX4_sumOf_12 : decode cX4_sumOf 12 = .ok (.iload_n 2, 1) := by decide +kernel
theorem dX4_sumOf_13 : decode cX4_sumOf 13 = .ok (.iaload, 1) := by decide +kernel
theorem dX4_sumOf_14 : decode cX4_sumOf 14 = .ok (.iadd, 1) := by decide +kernel
theorem dX4_sumOf_15 : decode cX4_sumOf 15 = .ok (.istore_n 1, 1) := by decide +kernel
theorem dX4_sumOf_16 : decode cX4_sumOf 16 = .ok (.iinc 2 1, 3) := by decide +kernel
theorem dX4_sumOf_19 : decode cX4_sumOf 19 = .ok (.goto (-15), 3) := by decide +kernel
theorem dX4_sumOf_22 : decode cX4_sumOf 22 = .ok (.iload_n 1, 1) := by decide +kernel
theorem dX4_sumOf_23 : decode cX4_sumOf 23 = .ok (.ireturn, 1) := by decide +kernel
theorem dX4_findingOfBook_0 : decode cX4_findingOfBook 0 = .ok (.iload_n 1, 1) := by decide +kernel
theorem dX4_findingOfBook_1 : decode cX4_findingOfBook 1 = .ok (.invokestatic 201, 3) := by decide +kernel
theorem dX4_findingOfBook_4 : decode cX4_findingOfBook 4 = .ok (.ifCond .ne 6, 3) := by decide +kernel
theorem dX4_findingOfBook_7 : decode cX4_findingOfBook 7 = .ok (.ldc 56, 2) := by decide +kernel
theorem dX4_findingOfBook_9 : decode cX4_findingOfBook 9 = .ok (.ireturn, 1) := by decide +kernel
theorem dX4_findingOfBook_10 : decode cX4_findingOfBook 10 = .ok (.aload_n 0, 1) := by decide +kernel
theorem dX4_findingOfBook_11 : decode cX4_findingOfBook 11 = .ok (.getfield 35, 3) := by decide +kernel
theorem dX4_findingOfBook_14 : decode cX4_findingOfBook 14 = .ok (.iload_n 1, 1) := by decide +kernel
theorem dX4_findingOfBook_15 : decode cX4_findingOfBook 15 = .ok (.aaload, 1) := by decide +kernel
theorem dX4_findingOfBook_16 : decode cX4_findingOfBook 16 = .ok (.invokevirtual 209, 3) := by decide +kernel
theorem dX4_findingOfBook_19 : decode cX4_findingOfBook 19 = .ok (.ifCond .eq 6, 3) := by decide +kernel
theorem dX4_findingOfBook_22 : decode cX4_findingOfBook 22 = .ok (.ldc 212, 2) := by decide +kernel
theorem dX4_findingOfBook_24 : decode cX4_findingOfBook 24 = .ok (.ireturn, 1) := by decide +kernel
theorem dX4_findingOfBook_25 : decode cX4_findingOfBook 25 = .ok (.iload_n 2, 1) := by decide +kernel
theorem dX4_findingOfBook_26 : decode cX4_findingOfBook 26 = .ok (.invokestatic 44, 3) := by decide +kernel
theorem dX4_findingOfBook_29 : decode cX4_findingOfBook 29 = .ok (.ifCond .eq 7, 3) := by decide +kernel
theorem dX4_findingOfBook_32 : decode cX4_findingOfBook 32 = .ok (.iconst 0, 1) := by decide +kernel
theorem dX4_findingOfBook_33 : decode cX4_findingOfBook 33 = .ok (.goto 5, 3) := by decide +kernel
theorem dX4_findingOfBook_36 : decode cX4_findingOfBook 36 = .ok (.ldc 56, 2) := by decide +kernel
theorem dX4_findingOfBook_38 : decode cX4_findingOfBook 38 = .ok (.ireturn, 1) := by decide +kernel
theorem dX4_isBookOf_0 : decode cX4_isBookOf 0 = .ok (.iconst 0, 1) := by decide +kernel
theorem dX4_isBookOf_1 : decode cX4_isBookOf 1 = .ok (.istore_n 3, 1) := by decide +kernel
theorem dX4_isBookOf_2 : decode cX4_isBookOf 2 = .ok (.iload_n 3, 1) := by decide +kernel
theorem dX4_isBookOf_3 : decode cX4_isBookOf 3 = .ok (.aload_n 1, 1) := by decide +kernel
theorem dX4_isBookOf_4 : decode cX4_isBookOf 4 = .ok (.getfield 208, 3) := by decide +kernel
theorem dX4_isBookOf_7 : decode cX4_isBookOf 7 = .ok (.if_icmp .ge 38, 3) := by decide +kernel
theorem dX4_isBookOf_10 : decode cX4_isBookOf 10 = .ok (.aload_n 1, 1) := by decide +kernel
theorem dX4_isBookOf_11 : decode cX4_isBookOf 11 = .ok (.getfield 213, 3) := by decide +kernel
theorem dX4_isBookOf_14 : decode cX4_isBookOf 14 = .ok (.iload_n 3, 1) := by decide +kernel
theorem dX4_isBookOf_15 : decode cX4_isBookOf 15 = .ok (.laload, 1) := by decide +kernel
theorem dX4_isBookOf_16 : decode cX4_isBookOf 16 = .ok (.aload_n 0, 1) := by decide +kernel
theorem dX4_isBookOf_17 : decode cX4_isBookOf 17 = .ok (.getfield 16, 3) := by decide +kernel
theorem dX4_isBookOf_20 : decode cX4_isBookOf 20 = .ok (.getfield 63, 3) := by decide +kernel
theorem dX4_isBookOf_23 : decode cX4_isBookOf 23 = .ok (.iload_n 2, 1) := by decide +kernel
theorem dX4_isBookOf_24 : decode cX4_isBookOf 24 = .ok (.iaload, 1) := by decide +kernel
theorem dX4_isBookOf_25 : decode cX4_isBookOf 25 = .ok (.i2l, 1) := by decide +kernel
theorem dX4_isBookOf_26 : decode cX4_isBookOf 26 = .ok (.lcmp, 1) := by decide +kernel
theorem dX4_isBookOf_27 : decode cX4_isBookOf 27 = .ok (.ifCond .eq 5, 3) := by decide +kernel
theorem dX4_isBookOf_30 : decode cX4_isBookOf 30 = .ok (.iconst 0, 1) := by decide +kernel
theorem dX4_isBookOf_31 : decode cX4_isBookOf 31 = .ok (.ireturn, 1) := by decide +kernel
theorem dX4_isBookOf_32 : decode cX4_isBookOf 32 = .ok (.aload_n 0, 1) := by decide +kernel
theorem dX4_isBookOf_33 : decode cX4_isBookOf 33 = .ok (.getfield 16, 3) := by decide +kernel
theorem dX4_isBookOf_36 : decode cX4_isBookOf 36 = .ok (.invokevirtual 181, 3) := by decide +kernel
theorem dX4_isBookOf_39 : decode cX4_isBookOf 39 = .ok (.iinc 3 1, 3) := by decide +kernel
theorem dX4_isBookOf_42 : decode cX4_isBookOf 42 = .ok (.goto (-40), 3) := by decide +kernel
theorem dX4_isBookOf_45 : decode cX4_isBookOf 45 = .ok (.iconst 1, 1) := by decide +kernel
theorem dX4_isBookOf_46 : decode cX4_isBookOf 46 = .ok (.ireturn, 1) := by decide +kernel
end
section
theorem dX5_init_0 : decode cX5_init 0 = .ok (.aload_n 0, 1) := by decide +kernel
theorem dX5_init_1 : decode cX5_init 1 = .ok (.invokespecial 1, 3) := by decide +kernel
theorem dX5_init_4 : decode cX5_init 4 = .ok (.aload_n 0, 1) := by decide +kernel
theorem dX5_init_5 : decode cX5_init 5 = .ok (.bipush 77, 2) := by decide +kernel
theorem dX5_init_7 : decode cX5_init 7 = .ok (.newarray .int, 2) := by decide +kernel
theorem dX5_init_9 : decode cX5_init 9 = .ok (.putfield 7, 3) := by decide +kernel
theorem dX5_init_12 : decode cX5_init 12 = .ok (.aload_n 0, 1) := by decide +kernel
theorem dX5_init_13 : decode cX5_init 13 = .ok (.bipush 77, 2) := by decide +kernel
theorem dX5_init_15 : decode cX5_init 15 = .ok (.newarray .int, 2) := by decide +kernel
theorem dX5_init_17 : decode cX5_init 17 = .ok (.putfield 13, 3) := by decide +kernel
theorem dX5_init_20 : decode cX5_init 20 = .ok (.aload_n 0, 1) := by decide +kernel
theorem dX5_init_21 : decode cX5_init 21 = .ok (.bipush 77, 2) := by decide +kernel
theorem dX5_init_23 : decode cX5_init 23 = .ok (.newarray .int, 2) := by decide +kernel
theorem dX5_init_25 : decode cX5_init 25 = .ok (.putfield 16, 3) := by decide +kernel
theorem dX5_init_28 : decode cX5_init 28 = .ok (.aload_n 0, 1) := by decide +kernel
theorem dX5_init_29 : decode cX5_init 29 = .ok (.bipush 77, 2) := by decide +kernel
theorem dX5_init_31 : decode cX5_init 31 = .ok (.newarray .int, 2) := by decide +kernel
theorem dX5_init_33 : decode cX5_init 33 = .ok (.putfield 19, 3) := by decide +kernel
theorem dX5_init_36 : decode cX5_init 36 = .ok (.aload_n 0, 1) := by decide +kernel
theorem dX5_init_37 : decode cX5_init 37 = .ok (.bipush 7, 2) := by decide +kernel
theorem dX5_init_39 : decode cX5_init 39 = .ok (.newarray .int, 2) := by decide +kernel
theorem dX5_init_41 : decode cX5_init 41 = .ok (.putfield 22, 3) := by decide +kernel
theorem dX5_init_44 : decode cX5_init 44 = .ok (.aload_n 0, 1) := by decide +kernel
theorem dX5_init_45 : decode cX5_init 45 = .ok (.bipush 120, 2) := by decide +kernel
theorem dX5_init_47 : decode cX5_init 47 = .ok (.newarray .int, 2) := by decide +kernel
theorem dX5_init_49 : decode cX5_init 49 = .ok (.putfield 25, 3) := by decide +kernel
theorem dX5_init_52 : decode cX5_init 52 = .ok (.aload_n 0, 1) := by decide +kernel
theorem dX5_init_53 : decode cX5_init 53 = .ok (.iconst 4, 1) := by decide +kernel
theorem dX5_init_54 : decode cX5_init 54 = .ok (.newarray .int, 2) := by decide +kernel
theorem dX5_init_56 : decode cX5_init 56 = .ok (.putfield 28, 3) := by decide +kernel
theorem dX5_init_59 : decode cX5_init 59 = .ok (.aload_n 0, 1) := by decide +kernel
theorem dX5_init_60 : decode cX5_init 60 = .ok (.iconst 4, 1) := by decide +kernel
theorem dX5_init_61 : decode cX5_init 61 = .ok (.newarray .int, 2) := by decide +kernel
theorem dX5_init_63 : decode cX5_init 63 = .ok (.putfield 31, 3) := by decide +kernel
theorem dX5_init_66 : decode cX5_init 66 = .ok (.aload_n 0, 1) := by decide +kernel
theorem dX5_init_67 : decode cX5_init 67 = .ok (.sipush 160, 3) := by decide +kernel
theorem dX5_init_70 : decode cX5_init 70 = .ok (.newarray .long, 2) := by decide +kernel
theorem dX5_init_72 : decode cX5_init 72 = .ok (.putfield 34, 3) := by decide +kernel
theorem dX5_init_75 : decode cX5_init 75 = .ok (.aload_n 0, 1) := by decide +kernel
theorem dX5_init_76 : decode cX5_init 76 = .ok (.bipush 40, 2) := by decide +kernel
theorem dX5_init_78 : decode cX5_init 78 = .ok (.newarray .long, 2) := by decide +kernel
theorem dX5_init_80 : decode cX5_init 80 = .ok (.putfield 38, 3) := by decide +kernel
theorem dX5_init_83 : decode cX5_init 83 = .ok (.iconst 0, 1) := by decide +kernel
theorem dX5_init_84 : decode cX5_init 84 = .ok (.istore_n 1, 1) := by decide +kernel
theorem dX5_init_85 : decode cX5_init 85 = .ok (.iload_n 1, 1) := by decide +kernel
theorem dX5_init_86 : decode cX5_init 86 = .ok (.bipush 8, 2) := by decide +kernel
theorem dX5_init_88 : decode cX5_init 88 = .ok (.if_icmp .ge 43, 3) := by decide +kernel
theorem dX5_init_91 : decode cX5_init 91 = .ok (.aload_n 0, 1) := by decide +kernel
theorem dX5_init_92 : decode cX5_init 92 = .ok (.getfield 7, 3) := by decide +kernel
theorem dX5_init_95 : decode cX5_init 95 = .ok (.iload_n 1, 1) := by decide +kernel
theorem dX5_init_96 : decode cX5_init 96 = .ok (.iconst 0, 1) := by decide +kernel
theorem dX5_init_97 : decode cX5_init 97 = .ok (.invokestatic 41, 3) := by decide +kernel
theorem dX5_init_100 : decode cX5_init 100 = .ok (.iconst 1, 1) := by decide +kernel
theorem dX5_init_101 : decode cX5_init 101 = .ok (.iastore, 1) := by decide +kernel
theorem dX5_init_102 : decode cX5_init 102 = .ok (.aload_n 0, 1) := by decide +kernel
theorem dX5_init_103 : decode cX5_init 103 = .ok (.getfield 7, 3) := by decide +kernel
theorem dX5_init_106 : decode cX5_init 106 = .ok (.iload_n 1, 1) := by decide +kernel
theorem dX5_init_107 : decode cX5_init 107 = .ok (.iconst 1, 1) := by decide +kernel
theorem dX5_init_108 : decode cX5_init 108 = .ok (.invokestatic 41, 3) := by decide +kernel
theorem dX5_init_111 : decode cX5_init 111 = .ok (.bipush 50, 2) := by decide +kernel
theorem dX5_init_113 : decode cX5_init 113 = .ok (.iastore, 1) := by decide +kernel
theorem dX5_init_114 : decode cX5_init 114 = .ok (.aload_n 0, 1) := by decide +kernel
theorem dX5_init_115 : decode cX5_init 115 = .ok (.getfield 7, 3) := by decide +kernel
theorem dX5_init_118 : decode cX5_init 118 = .ok (.iload_n 1, 1) := by decide +kernel
theorem dX5_init_119 : decode cX5_init 119 = .ok (.iconst 2, 1) := by decide +kernel
theorem dX5_init_120 : decode cX5_init 120 = .ok (.invokestatic 41, 3) := by decide +kernel
theorem dX5_init_123 : decode cX5_init 123 = .ok (.iconst 3, 1) := by decide +kernel
theorem dX5_init_124 : decode cX5_init 124 = .ok (.iastore, 1) := by decide +kernel
theorem dX5_init_125 : decode cX5_init 125 = .ok (.iinc 1 1, 3) := by decide +kernel
theorem dX5_init_128 : decode cX5_init 128 = .ok (.goto (-43), 3) := by decide +kernel
theorem dX5_init_131 : decode cX5_init 131 = .ok (.return_, 1) := by decide +kernel
theorem dX5_in_0 : decode cX5_in 0 = .ok (.lload_n 0, 1) := by decide +kernel
theorem dX5_in_1 : decode cX5_in 1 = .ok (.lload_n 2, 1) := by decide +kernel
theorem dX5_in_2 : decode cX5_in 2 = .ok (.lcmp, 1) := by decide +kernel
theorem dX5_in_3 : decode cX5_in 3 = .ok (.ifCond .lt 14, 3) := by decide +kernel
theorem dX5_in_6 : decode cX5_in 6 = .ok (.lload_n 0, 1) := by decide +kernel
theorem dX5_in_7 : decode cX5_in 7 = .ok (.lload 4, 2) := by decide +kernel
theorem dX5_in_9 : decode cX5_in 9 = .ok (.lcmp, 1) := by decide +kernel
theorem dX5_in_10 : decode cX5_in 10 = .ok (.ifCond .gt 7, 3) := by decide +kernel
theorem dX5_in_13 : decode cX5_in 13 = .ok (.iconst 1, 1) := by decide +kernel
theorem dX5_in_14 : decode cX5_in 14 = .ok (.goto 4, 3) := by decide +kernel
theorem dX5_in_17 : decode cX5_in 17 = .ok (.iconst 0, 1) := by decide +kernel
theorem dX5_in_18 : decode cX5_in 18 = .ok (.ireturn, 1) := by decide +kernel
theorem dX5_finds_0 : decode cX5_finds 0 = .ok (.aload_n 0, 1) := by decide +kernel
theorem dX5_finds_1 : decode cX5_finds 1 = .ok (.getfield 22, 3) := by decide +kernel
theorem dX5_finds_4 : decode cX5_finds 4 = .ok (.ldc 45, 2) := by decide +kernel
theorem dX5_finds_6 : decode cX5_finds 6 = .ok (.iload_n 1, 1) := by decide +kernel
theorem dX5_finds_7 : decode cX5_finds 7 = .ok (.isub, 1) := by decide +kernel
theorem dX5_finds_8 : decode cX5_finds 8 = .ok (.dup2, 1) := by decide +kernel
theorem dX5_finds_9 : decode cX5_finds 9 = .ok (.iaload, 1) := by decide +kernel
theorem dX5_finds_10 : decode cX5_finds 10 = .ok (.iconst 1, 1) := by decide +kernel
theorem dX5_finds_11 : decode cX5_finds 11 = .ok (.iadd, 1) := by decide +kernel
theorem dX5_finds_12 : decode cX5_finds 12 = .ok (.iastore, 1) := by decide +kernel
theorem dX5_finds_13 : decode cX5_finds 13 = .ok (.iload_n 1, 1) := by decide +kernel
theorem dX5_finds_14 : decode cX5_finds 14 = .ok (.ireturn, 1) := by decide +kernel
theorem dX5_saves_0 : decode cX5_saves 0 = .ok (.iconst 0, 1) := by decide +kernel
theorem dX5_saves_1 : decode cX5_saves 1 = .ok (.istore_n 1, 1) := by decide +kernel
theorem dX5_saves_2 : decode cX5_saves 2 = .ok (.iload_n 1, 1) := by decide +kernel
theorem dX5_saves_3 : decode cX5_saves 3 = .ok (.bipush 77, 2) := by decide +kernel
theorem dX5_saves_5 : decode cX5_saves 5 = .ok (.if_icmp .ge 21, 3) := by decide +kernel
theorem dX5_saves_8 : decode cX5_saves 8 = .ok (.aload_n 0, 1) := by decide +kernel
theorem dX5_saves_9 : decode cX5_saves 9 = .ok (.getfield 16, 3) := by decide +kernel
theorem dX5_saves_12 : decode cX5_saves 12 = .ok (.iload_n 1, 1) := by decide +kernel
theorem dX5_saves_13 : decode cX5_saves 13 = .ok (.aload_n 0, 1) := by decide +kernel
theorem dX5_saves_14 : decode cX5_saves 14 = .ok (.getfield 7, 3) := by decide +kernel
theorem dX5_saves_17 : decode cX5_saves 17 = .ok (.iload_n 1, 1) := by decide +kernel
theorem dX5_saves_18 : decode cX5_saves 18 = .ok (.iaload, 1) := by decide +kernel
theorem dX5_saves_19 : decode cX5_saves 19 = .ok (.iastore, 1) := by decide +kernel
theorem dX5_saves_20 : decode cX5_saves 20 = .ok (.iinc 1 1, 3) := by decide +kernel
theorem dX5_saves_23 : decode cX5_saves 23 = .ok (.goto (-21), 3) := by decide +kernel
theorem dX5_saves_26 : decode cX5_saves 26 = .ok (.return_, 1) := by decide +kernel
theorem dX5_putsBack_0 : decode cX5_putsBack 0 = .ok (.iconst 0, 1) := by decide +kernel
theorem dX5_putsBack_1 : decode cX5_putsBack 1 = .ok (.istore_n 1, 1) := by decide +kernel
theorem dX5_putsBack_2 : decode cX5_putsBack 2 = .ok (.iload_n 1, 1) := by decide +kernel
theorem dX5_putsBack_3 : decode cX5_putsBack 3 = .ok (.bipush 77, 2) := by decide +kernel
theorem dX5_putsBack_5 : decode cX5_putsBack 5 = .ok (.if_icmp .ge 21, 3) := by decide +kernel
theorem dX5_putsBack_8 : decode cX5_putsBack 8 = .ok (.aload_n 0, 1) := by decide +kernel
theorem dX5_putsBack_9 : decode cX5_putsBack 9 = .ok (.getfield 7, 3) := by decide +kernel
theorem dX5_putsBack_12 : decode cX5_putsBack 12 = .ok (.iload_n 1, 1) := by decide +kernel
theorem dX5_putsBack_13 : decode cX5_putsBack 13 = .ok (.aload_n 0, 1) := by decide +kernel
theorem dX5_putsBack_14 : decode cX5_putsBack 14 = .ok (.getfield 16, 3) := by decide +kernel
theorem dX5_putsBack_17 : decode cX5_putsBack 17 = .ok (.iload_n 1, 1) := by decide +kernel
theorem dX5_putsBack_18 : decode cX5_putsBack 18 = .ok (.iaload, 1) := by decide +kernel
theorem dX5_putsBack_19 : decode cX5_putsBack 19 = .ok (.iastore, 1) := by decide +kernel
theorem dX5_putsBack_20 : decode cX5_putsBack 20 = .ok (.iinc 1 1, 3) := by decide +kernel
theorem dX5_putsBack_23 : decode cX5_putsBack 23 = .ok (.goto (-21), 3) := by decide +kernel
theorem dX5_putsBack_26 : decode cX5_putsBack 26 = .ok (.return_, 1) := by decide +kernel
theorem dX5_laysAside_0 : decode cX5_laysAside 0 = .ok (.iconst 0, 1) := by decide +kernel
theorem dX5_laysAside_1 : decode cX5_laysAside 1 = .ok (.istore_n 1, 1) := by decide +kernel
theorem dX5_laysAside_2 : decode cX5_laysAside 2 = .ok (.iload_n 1, 1) := by decide +kernel
theorem dX5_laysAside_3 : decode cX5_laysAside 3 = .ok (.bipush 77, 2) := by decide +kernel
theorem dX5_laysAside_5 : decode cX5_laysAside 5 = .ok (.if_icmp .ge 21, 3) := by decide +kernel
theorem dX5_laysAside_8 : decode cX5_laysAside 8 = .ok (.aload_n 0, 1) := by decide +kernel
theorem dX5_laysAside_9 : decode cX5_laysAside 9 = .ok (.getfield 19, 3) := by decide +kernel
theorem dX5_laysAside_12 : decode cX5_laysAside 12 = .ok (.iload_n 1, 1) := by decide +kernel
theorem dX5_laysAside_13 : decode cX5_laysAside 13 = .ok (.aload_n 0, 1) := by decide +kernel
theorem dX5_laysAside_14 : decode cX5_laysAside 14 = .ok (.getfield 7, 3) := by decide +kernel
theorem dX5_laysAside_17 : decode cX5_laysAside 17 = .ok (.iload_n 1, 1) := by decide +kernel
theorem dX5_laysAside_18 : decode cX5_laysAside 18 = .ok (.iaload, 1) := by decide +kernel
theorem dX5_laysAside_19 : decode cX5_laysAside 19 = .ok (.iastore, 1) := by decide +kernel
theorem dX5_laysAside_20 : decode cX5_laysAside 20 = .ok (.iinc 1 1, 3) := by decide +kernel
theorem dX5_laysAside_23 : decode cX5_laysAside 23 = .ok (.goto (-21), 3) := by decide +kernel
theorem dX5_laysAside_26 : decode cX5_laysAside 26 = .ok (.return_, 1) := by decide +kernel
theorem dX5_takesBack_0 : decode cX5_takesBack 0 = .ok (.iconst 0, 1) := by decide +kernel
theorem dX5_takesBack_1 : decode cX5_takesBack 1 = .ok (.istore_n 2, 1) := by decide +kernel
theorem dX5_takesBack_2 : decode cX5_takesBack 2 = .ok (.iload_n 2, 1) := by decide +kernel
theorem dX5_takesBack_3 : decode cX5_takesBack 3 = .ok (.bipush 77, 2) := by decide +kernel
theorem dX5_takesBack_5 : decode cX5_takesBack 5 = .ok (.if_icmp .ge 21, 3) := by decide +kernel
theorem dX5_takesBack_8 : decode cX5_takesBack 8 = .ok (.aload_n 0, 1) := by decide +kernel
theorem dX5_takesBack_9 : decode cX5_takesBack 9 = .ok (.getfield 7, 3) := by decide +kernel
theorem dX5_takesBack_12 : decode cX5_takesBack 12 = .ok (.iload_n 2, 1) := by decide +kernel
theorem dX5_takesBack_13 : decode cX5_takesBack 13 = .ok (.aload_n 0, 1) := by decide +kernel
theorem dX5_takesBack_14 : decode cX5_takesBack 14 = .ok (.getfield 19, 3) := by decide +kernel
theorem dX5_takesBack_17 : decode cX5_takesBack 17 = .ok (.iload_n 2, 1) := by decide +kernel
theorem dX5_takesBack_18 : decode cX5_takesBack 18 = .ok (.iaload, 1) := by decide +kernel
theorem dX5_takesBack_19 : decode cX5_takesBack 19 = .ok (.iastore, 1) := by decide +kernel
theorem dX5_takesBack_20 : decode cX5_takesBack 20 = .ok (.iinc 2 1, 3) := by decide +kernel
theorem dX5_takesBack_23 : decode cX5_takesBack 23 = .ok (.goto (-21), 3) := by decide +kernel
theorem dX5_takesBack_26 : decode cX5_takesBack 26 = .ok (.iload_n 1, 1) := by decide +kernel
theorem dX5_takesBack_27 : decode cX5_takesBack 27 = .ok (.ireturn, 1) := by decide +kernel
theorem dX5_becomes_0 : decode cX5_becomes 0 = .ok (.aload_n 0, 1) := by decide +kernel
theorem dX5_becomes_1 : decode cX5_becomes 1 = .ok (.getfield 7, 3) := by decide +kernel
theorem dX5_becomes_4 : decode cX5_becomes 4 = .ok (.iload_n 1, 1) := by decide +kernel
theorem dX5_becomes_5 : decode cX5_becomes 5 = .ok (.iaload, 1) := by decide +kernel
theorem dX5_becomes_6 : decode cX5_becomes 6 = .ok (.istore_n 3, 1) := by decide +kernel
theorem dX5_becomes_7 : decode cX5_becomes 7 = .ok (.aload_n 0, 1) := by decide +kernel
theorem dX5_becomes_8 : decode cX5_becomes 8 = .ok (.getfield 7, 3) := by decide +kernel
theorem dX5_becomes_11 : decode cX5_becomes 11 = .ok (.iload_n 1, 1) := by decide +kernel
theorem dX5_becomes_12 : decode cX5_becomes 12 = .ok (.iload_n 2, 1) := by decide +kernel
theorem dX5_becomes_13 : decode cX5_becomes 13 = .ok (.iastore, 1) := by decide +kernel
theorem dX5_becomes_14 : decode cX5_becomes 14 = .ok (.iload_n 3, 1) := by decide +kernel
theorem dX5_becomes_15 : decode cX5_becomes 15 = .ok (.ireturn, 1) := by decide +kernel
theorem dX5_isHouse_0 : decode cX5_isHouse 0 = .ok (.iload_n 0, 1) := by decide +kernel
theorem dX5_isHouse_1 : decode cX5_isHouse 1 = .ok (.i2l, 1) := by decide +kernel
theorem dX5_isHouse_2 : decode cX5_isHouse 2 = .ok (.lconst 0, 1) := by decide +kernel
theorem dX5_isHouse_3 : decode cX5_isHouse 3 = .ok (.ldc2_w 46, 3) := by decide +kernel
theorem dX5_isHouse_6 : decode cX5_isHouse 6 = .ok (.invokestatic 48, 3) := by decide +kernel
theorem dX5_isHouse_9 : decode cX5_isHouse 9 = .ok (.ireturn, 1) := by decide +kernel
theorem dX5_isRumour_0 : decode cX5_isRumour 0 = .ok (.iload_n 1, 1) := by decide +kernel
theorem dX5_isRumour_1 : decode cX5_isRumour 1 = .ok (.i2l, 1) := by decide +kernel
theorem dX5_isRumour_2 : decode cX5_isRumour 2 = .ok (.lconst 0, 1) := by decide +kernel
theorem dX5_isRumour_3 : decode cX5_isRumour 3 = .ok (.aload_n 0, 1) := by decide +kernel
theorem dX5_isRumour_4 : decode cX5_isRumour 4 = .ok (.getfield 7, 3) := by decide +kernel
theorem dX5_isRumour_7 : decode cX5_isRumour 7 = .ok (.iconst 0, 1) := by decide +kernel
theorem dX5_isRumour_8 : decode cX5_isRumour 8 = .ok (.iaload, 1) := by decide +kernel
theorem dX5_isRumour_9 : decode cX5_isRumour 9 = .ok (.iconst 1, 1) := by decide +kernel
theorem dX5_isRumour_10 : decode cX5_isRumour 10 = .ok (.isub, 1) := by decide +kernel
theorem dX5_isRumour_11 : decode cX5_isRumour 11 = .ok (.i2l, 1) := by decide +kernel
theorem dX5_isRumour_12 : decode cX5_isRumour 12 = .ok (.invokestatic 48, 3) := by decide +kernel
theorem dX5_isRumour_15 : decode cX5_isRumour 15 = .ok (.ireturn, 1) := by decide +kernel
theorem dX5_isKind_0 : decode cX5_isKind 0 = .ok (.iload_n 0, 1) := by decide +kernel
theorem dX5_isKind_1 : decode cX5_isKind 1 = .ok (.i2l, 1) := by decide +kernel
theorem dX5_isKind_2 : decode cX5_isKind 2 = .ok (.lconst 0, 1) := by decide +kernel
theorem dX5_isKind_3 : decode cX5_isKind 3 = .ok (.ldc2_w 52, 3) := by decide +kernel
theorem dX5_isKind_6 : decode cX5_isKind 6 = .ok (.invokestatic 48, 3) := by decide +kernel
theorem dX5_isKind_9 : decode cX5_isKind 9 = .ok (.ireturn, 1) := by decide +kernel
theorem dX5_isEvent_0 : decode cX5_isEvent 0 = .ok (.iload_n 0, 1) := by decide +kernel
theorem dX5_isEvent_1 : decode cX5_isEvent 1 = .ok (.i2l, 1) := by decide +kernel
theorem dX5_isEvent_2 : decode cX5_isEvent 2 = .ok (.lconst 0, 1) := by decide +kernel
theorem dX5_isEvent_3 : decode cX5_isEvent 3 = .ok (.ldc2_w 54, 3) := by decide +kernel
theorem dX5_isEvent_6 : decode cX5_isEvent 6 = .ok (.invokestatic 48, 3) := by decide +kernel
theorem dX5_isEvent_9 : decode cX5_isEvent 9 = .ok (.ireturn, 1) := by decide +kernel
theorem dX5_partOf_0 : decode cX5_partOf 0 = .ok (.iconst 3, 1) := by decide +kernel
theorem dX5_partOf_1 : decode cX5_partOf 1 = .ok (.iconst 3, 1) := by decide +kernel
theorem dX5_partOf_2 : decode cX5_partOf 2 = .ok (.iload_n 0, 1) := by decide +kernel
theorem dX5_partOf_3 : decode cX5_partOf 3 = .ok (.imul, 1) := by decide +kernel
theorem dX5_partOf_4 : decode cX5_partOf 4 = .ok (.iadd, 1) := by decide +kernel
theorem dX5_partOf_5 : decode cX5_partOf 5 = .ok (.iload_n 1, 1) := by decide +kernel
theorem dX5_partOf_6 : decode cX5_partOf 6 = .ok (.iadd, 1) := by decide +kernel
theorem dX5_partOf_7 : decode cX5_partOf 7 = .ok (.ireturn, 1) := by decide +kernel
theorem dX5_spotOf_0 : decode cX5_spotOf 0 = .ok (.bipush 27, 2) := by decide +kernel
theorem dX5_spotOf_2 : decode cX5_spotOf 2 = .ok (.iconst 5, 1) := by decide +kernel
theorem dX5_spotOf_3 : decode cX5_spotOf 3 = .ok (.iload_n 0, 1) := by decide +kernel
theorem dX5_spotOf_4 : decode cX5_spotOf 4 = .ok (.imul, 1) := by decide +kernel
theorem dX5_spotOf_5 : decode cX5_spotOf 5 = .ok (.iadd, 1) := by decide +kernel
theorem dX5_spotOf_6 : decode cX5_spotOf 6 = .ok (.iload_n 1, 1) := by decide +kernel
theorem dX5_spotOf_7 : decode cX5_spotOf 7 = .ok (.iadd, 1) := by decide +kernel
theorem dX5_spotOf_8 : decode cX5_spotOf 8 = .ok (.ireturn, 1) := by decide +kernel
theorem dX5_its_0 : decode cX5_its 0 = .ok (.aload_n 0, 1) := by decide +kernel
theorem dX5_its_1 : decode cX5_its 1 = .ok (.getfield 7, 3) := by decide +kernel
theorem dX5_its_4 : decode cX5_its 4 = .ok (.iload_n 1, 1) := by decide +kernel
theorem dX5_its_5 : decode cX5_its 5 = .ok (.iload_n 2, 1) := by decide +kernel
theorem dX5_its_6 : decode cX5_its 6 = .ok (.invokestatic 56, 3) := by decide +kernel
theorem dX5_its_9 : decode cX5_its 9 = .ok (.iaload, 1) := by decide +kernel
theorem dX5_its_10 : decode cX5_its 10 = .ok (.ireturn, 1) := by decide +kernel
theorem dX5_has_0 : decode cX5_has 0 = .ok (.aload_n 0, 1) := by decide +kernel
theorem dX5_has_1 : decode cX5_has 1 = .ok (.getfield 7, 3) := by decide +kernel
theorem dX5_has_4 : decode cX5_has 4 = .ok (.iload_n 1, 1) := by decide +kernel
theorem dX5_has_5 : decode cX5_has 5 = .ok (.iload_n 2, 1) := by decide +kernel
theorem dX5_has_6 : decode cX5_has 6 = .ok (.invokestatic 41, 3) := by decide +kernel
theorem dX5_has_9 : decode cX5_has 9 = .ok (.iaload, 1) := by decide +kernel
theorem dX5_has_10 : decode cX5_has 10 = .ok (.ireturn, 1) := by decide +kernel
theorem dX5_house_0 : decode cX5_house 0 = .ok (.iload_n 2, 1) := by decide +kernel
theorem dX5_house_1 : decode cX5_house 1 = .ok (.i2l, 1) := by decide +kernel
theorem dX5_house_2 : decode cX5_house 2 = .ok (.lconst 0, 1) := by decide +kernel
theorem dX5_house_3 : decode cX5_house 3 = .ok (.ldc2_w 59, 3) := by decide +kernel
theorem dX5_house_6 : decode cX5_house 6 = .ok (.invokestatic 48, 3) := by decide +kernel
theorem dX5_house_9 : decode cX5_house 9 = .ok (.ifCond .eq 40, 3) := by decide +kernel
theorem dX5_house_12 : decode cX5_house 12 = .ok (.iload_n 3, 1) := by decide +kernel
theorem dX5_house_13 : decode cX5_house 13 = .ok (.i2l, 1) := by decide +kernel
theorem dX5_house_14 : decode cX5_house 14 = .ok (.lconst 0, 1) := by decide +kernel
theorem dX5_house_15 : decode cX5_house 15 = .ok (.iload_n 2, 1) := by decide +kernel
theorem dX5_house_16 : decode cX5_house 16 = .ok (.ifCond .ne 9, 3) := by decide +kernel
theorem dX5_house_19 : decode cX5_house 19 = .ok (.ldc2_w 61, 3) := by decide +kernel
theorem dX5_house_22 : decode cX5_house 22 = .ok (.goto 17, 3) := by decide +kernel
theorem dX5_house_25 : decode cX5_house 25 = .ok (.iload_n 2, 1) := by decide +kernel
theorem dX5_house_26 : decode cX5_house 26 = .ok (.iconst 1, 1) := by decide +kernel
theorem dX5_house_27 : decode cX5_house 27 = .ok (.if_icmp .ne 9, 3) := by decide +kernel
theorem dX5_house_30 : decode cX5_house 30 = .ok (.ldc2_w 63, 3) := by decide +kernel
theorem dX5_house_33 : decode cX5_house 33 = .ok (.goto 6, 3) := by decide +kernel
theorem dX5_house_36 : decode cX5_house 36 = .ok (.ldc2_w 65, 3) := by decide +kernel
theorem dX5_house_39 : decode cX5_house 39 = .ok (.invokestatic 48, 3) := by decide +kernel
theorem dX5_house_42 : decode cX5_house 42 = .ok (.ifCond .eq 7, 3) := by decide +kernel
theorem dX5_house_45 : decode cX5_house 45 = .ok (.iconst 1, 1) := by decide +kernel
theorem dX5_house_46 : decode cX5_house 46 = .ok (.goto 4, 3) := by decide +kernel
theorem dX5_house_49 : decode cX5_house 49 = .ok (.iconst 0, 1) := by decide +kernel
theorem dX5_house_50 : decode cX5_house 50 = .ok (.istore 4, 2) := by decide +kernel
theorem dX5_house_52 : decode cX5_house 52 = .ok (.iload_n 1, 1) := by decide +kernel
theorem dX5_house_53 : decode cX5_house 53 = .ok (.invokestatic 67, 3) := by decide +kernel
theorem dX5_house_56 : decode cX5_house 56 = .ok (.ifCond .eq 21, 3) := by decide +kernel
theorem dX5_house_59 : decode cX5_house 59 = .ok (.iload 4, 2) := by decide +kernel
theorem dX5_house_61 : decode cX5_house 61 = .ok (.ifCond .eq 16, 3) := by decide +kernel
theorem dX5_house_64 : decode cX5_house 64 = .ok (.aload_n 0, 1) := by decide +kernel
theorem dX5_house_65 : decode cX5_house 65 = .ok (.iload_n 1, 1) := by decide +kernel
theorem dX5_house_66 : decode cX5_house 66 = .ok (.iload_n 2, 1) := by decide +kernel
theorem dX5_house_67 : decode cX5_house 67 = .ok (.invokestatic 41, 3) := by decide +kernel
theorem dX5_house_70 : decode cX5_house 70 = .ok (.iload_n 3, 1) := by decide +kernel
theorem dX5_house_71 : decode cX5_house 71 = .ok (.invokevirtual 71, 3) := by decide +kernel
theorem dX5_house_74 : decode cX5_house 74 = .ok (.goto 9, 3) := by decide +kernel
theorem dX5_house_77 : decode cX5_house 77 = .ok (.aload_n 0, 1) := by decide +kernel
theorem dX5_house_78 : decode cX5_house 78 = .ok (.ldc 45, 2) := by decide +kernel
theorem dX5_house_80 : decode cX5_house 80 = .ok (.invokevirtual 74, 3) := by decide +kernel
theorem dX5_house_83 : decode cX5_house 83 = .ok (.ireturn, 1) := by decide +kernel
theorem dX5_thoseAt_0 : decode cX5_thoseAt 0 = .ok (.iconst 0, 1) := by decide +kernel
theorem dX5_thoseAt_1 : decode cX5_thoseAt 1 = .ok (.istore_n 2, 1) := by decide +kernel
theorem dX5_thoseAt_2 : decode cX5_thoseAt 2 = .ok (.iconst 0, 1) := by decide +kernel
theorem dX5_thoseAt_3 : decode cX5_thoseAt 3 = .ok (.istore_n 3, 1) := by decide +kernel
theorem dX5_thoseAt_4 : decode cX5_thoseAt 4 = .ok (.iload_n 3, 1) := by decide +kernel
theorem dX5_thoseAt_5 : decode cX5_thoseAt 5 = .ok (.aload_n 0, 1) := by decide +kernel
theorem dX5_thoseAt_6 : decode cX5_thoseAt 6 = .ok (.getfield 7, 3) := by decide +kernel
theorem dX5_thoseAt_9 : decode cX5_thoseAt 9 = .ok (.iconst 0, 1) := by decide +kernel
theorem dX5_thoseAt_10 : decode cX5_thoseAt 10 = .ok (.iaload, 1) := by decide +kernel
theorem dX5_thoseAt_11 : decode cX5_thoseAt 11 = .ok (.if_icmp .ge 29, 3) := by decide +kernel
theorem dX5_thoseAt_14 : decode cX5_thoseAt 14 = .ok (.iload_n 2, 1) := by decide +kernel
theorem dX5_thoseAt_15 : decode cX5_thoseAt 15 = .ok (.aload_n 0, 1) := by decide +kernel
theorem dX5_thoseAt_16 : decode cX5_thoseAt 16 = .ok (.iload_n 3, 1) := by decide +kernel
theorem dX5_thoseAt_17 : decode cX5_thoseAt 17 = .ok (.iconst 4, 1) := by decide +kernel
theorem dX5_thoseAt_18 : decode cX5_thoseAt 18 = .ok (.invokevirtual 78, 3) := by decide +kernel
theorem dX5_thoseAt_21 : decode cX5_thoseAt 21 = .ok (.iload_n 1, 1) := by decide +kernel
theorem dX5_thoseAt_22 : decode cX5_thoseAt 22 = .ok (.if_icmp .ne 9, 3) := by decide +kernel
theorem dX5_thoseAt_25 : decode cX5_thoseAt 25 = .ok (.iconst 1, 1) := by decide +kernel
theorem dX5_thoseAt_26 : decode cX5_thoseAt 26 = .ok (.iload_n 3, 1) := by decide +kernel
theorem dX5_thoseAt_27 : decode cX5_thoseAt 27 = .ok (.ishl, 1) := by decide +kernel
theorem dX5_thoseAt_28 : decode cX5_thoseAt 28 = .ok (.goto 4, 3) := by decide +kernel
theorem dX5_thoseAt_31 : decode cX5_thoseAt 31 = .ok (.iconst 0, 1) := by decide +kernel
theorem dX5_thoseAt_32 : decode cX5_thoseAt 32 = .ok (.ior, 1) := by decide +kernel
theorem dX5_thoseAt_33 : decode cX5_thoseAt 33 = .ok (.istore_n 2, 1) := by decide +kernel
theorem dX5_thoseAt_34 : decode cX5_thoseAt 34 = .ok (.iinc 3 1, 3) := by decide +kernel
theorem dX5_thoseAt_37 : decode cX5_thoseAt 37 = .ok (.goto (-33), 3) := by decide +kernel
theorem dX5_thoseAt_40 : decode cX5_thoseAt 40 = .ok (.iload_n 2, 1) := by decide +kernel
theorem dX5_thoseAt_41 : decode cX5_thoseAt 41 = .ok (.ireturn, 1) := by decide +kernel
theorem dX5_ones_0 : decode cX5_ones 0 = .ok (.iconst 0, 1) := by decide +kernel
theorem dX5_ones_1 : decode cX5_ones 1 = .ok (.istore_n 1, 1) := by decide +kernel
theorem dX5_ones_2 : decode cX5_ones 2 = .ok (.iload_n 0, 1) := by decide +kernel
theorem dX5_ones_3 : decode cX5_ones 3 = .ok (.istore_n 2, 1) := by decide +kernel
theorem dX5_ones_4 : decode cX5_ones 4 = .ok (.iload_n 2, 1) := by decide +kernel
theorem dX5_ones_5 : decode cX5_ones 5 = .ok (.ifCond .eq 15, 3) := by decide +kernel
theorem dX5_ones_8 : decode cX5_ones 8 = .ok (.iinc 1 1, 3) := by decide +kernel
theorem dX5_ones_11 : decode cX5_ones 11 = .ok (.iload_n 2, 1) := by decide +kernel
theorem dX5_ones_12 : decode cX5_ones 12 = .ok (.iload_n 2, 1) := by decide +kernel
theorem dX5_ones_13 : decode cX5_ones 13 = .ok (.iconst 1, 1) := by decide +kernel
theorem dX5_ones_14 : decode cX5_ones 14 = .ok (.isub, 1) := by decide +kernel
theorem dX5_ones_15 : decode cX5_ones 15 = .ok (.iand, 1) := by decide +kernel
theorem dX5_ones_16 : decode cX5_ones 16 = .ok (.istore_n 2, 1) := by decide +kernel
theorem dX5_ones_17 : decode cX5_ones 17 = .ok (.goto (-13), 3) := by decide +kernel
theorem dX5_ones_20 : decode cX5_ones 20 = .ok (.iload_n 1, 1) := by decide +kernel
theorem dX5_ones_21 : decode cX5_ones 21 = .ok (.ireturn, 1) := by decide +kernel
theorem dX5_eventsAt_0 : decode cX5_eventsAt 0 = .ok (.iconst 0, 1) := by decide +kernel
theorem dX5_eventsAt_1 : decode cX5_eventsAt 1 = .ok (.istore_n 2, 1) := by decide +kernel
theorem dX5_eventsAt_2 : decode cX5_eventsAt 2 = .ok (.iconst 0, 1) := by decide +kernel
theorem dX5_eventsAt_3 : decode cX5_eventsAt 3 = .ok (.istore_n 3, 1) := by decide +kernel
theorem dX5_eventsAt_4 : decode cX5_eventsAt 4 = .ok (.iload_n 3, 1) := by decide +kernel
theorem dX5_eventsAt_5 : decode cX5_eventsAt 5 = .ok (.aload_n 0, 1) := by decide +kernel
theorem dX5_eventsAt_6 : decode cX5_eventsAt 6 = .ok (.getfield 7, 3) := by decide +kernel
theorem dX5_eventsAt_9 : decode cX5_eventsAt 9 = .ok (.iconst 0, 1) := by decide +kernel
theorem dX5_eventsAt_10 : decode cX5_eventsAt 10 = .ok (.iaload, 1) := by decide +kernel
theorem dX5_eventsAt_11 : decode cX5_eventsAt 11 = .ok (.if_icmp .ge 34, 3) := by decide +kernel
theorem dX5_eventsAt_14 : decode cX5_eventsAt 14 = .ok (.iload_n 2, 1) := by decide +kernel
theorem dX5_eventsAt_15 : decode cX5_eventsAt 15 = .ok (.aload_n 0, 1) := by decide +kernel
theorem dX5_eventsAt_16 : decode cX5_eventsAt 16 = .ok (.iload_n 3, 1) := by decide +kernel
theorem dX5_eventsAt_17 : decode cX5_eventsAt 17 = .ok (.iconst 4, 1) := by decide +kernel
theorem dX5_eventsAt_18 : decode cX5_eventsAt 18 = .ok (.invokevirtual 78, 3) := by decide +kernel
theorem dX5_eventsAt_21 : decode cX5_eventsAt 21 = .ok (.iload_n 1, 1) := by decide +kernel
theorem dX5_eventsAt_22 : decode cX5_eventsAt 22 = .ok (.if_icmp .ne 14, 3) := by decide +kernel
theorem dX5_eventsAt_25 : decode cX5_eventsAt 25 = .ok (.iconst 1, 1) := by decide +kernel
theorem dX5_eventsAt_26 : decode cX5_eventsAt 26 = .ok (.aload_n 0, 1) := by decide +kernel
theorem dX5_eventsAt_27 : decode cX5_eventsAt 27 = .ok (.iload_n 3, 1) := by decide +kernel
theorem dX5_eventsAt_28 : decode cX5_eventsAt 28 = .ok (.iconst 1, 1) := by decide +kernel
theorem dX5_eventsAt_29 : decode cX5_eventsAt 29 = .ok (.invokevirtual 78, 3) := by decide +kernel
theorem dX5_eventsAt_32 : decode cX5_eventsAt 32 = .ok (.ishl, 1) := by decide +kernel
theorem dX5_eventsAt_33 : decode cX5_eventsAt 33 = .ok (.goto 4, 3) := by decide +kernel
theorem dX5_eventsAt_36 : decode cX5_eventsAt 36 = .ok (.iconst 0, 1) := by decide +kernel
theorem dX5_eventsAt_37 : decode cX5_eventsAt 37 = .ok (.ior, 1) := by decide +kernel
theorem dX5_eventsAt_38 : decode cX5_eventsAt 38 = .ok (.istore_n 2, 1) := by decide +kernel
theorem dX5_eventsAt_39 : decode cX5_eventsAt 39 = .ok (.iinc 3 1, 3) := by decide +kernel
theorem dX5_eventsAt_42 : decode cX5_eventsAt 42 = .ok (.goto (-38), 3) := by decide +kernel
theorem dX5_eventsAt_45 : decode cX5_eventsAt 45 = .ok (.iload_n 2, 1) := by decide +kernel
theorem dX5_eventsAt_46 : decode cX5_eventsAt 46 = .ok (.ireturn, 1) := by decide +kernel
theorem dX5_eatenAt_0 : decode cX5_eatenAt 0 = .ok (.iconst 0, 1) := by decide +kernel
theorem dX5_eatenAt_1 : decode cX5_eatenAt 1 = .ok (.istore_n 2, 1) := by decide +kernel
theorem dX5_eatenAt_2 : decode cX5_eatenAt 2 = .ok (.iconst 0, 1) := by decide +kernel
theorem dX5_eatenAt_3 : decode cX5_eatenAt 3 = .ok (.istore_n 3, 1) := by decide +kernel
theorem dX5_eatenAt_4 : decode cX5_eatenAt 4 = .ok (.iload_n 3, 1) := by decide +kernel
theorem dX5_eatenAt_5 : decode cX5_eatenAt 5 = .ok (.aload_n 0, 1) := by decide +kernel
theorem dX5_eatenAt_6 : decode cX5_eatenAt 6 = .ok (.getfield 7, 3) := by decide +kernel
theorem dX5_eatenAt_9 : decode cX5_eatenAt 9 = .ok (.iconst 0, 1) := by decide +kernel
theorem dX5_eatenAt_10 : decode cX5_eatenAt 10 = .ok (.iaload, 1) := by decide +kernel
theorem dX5_eatenAt_11 : decode cX5_eatenAt 11 = .ok (.if_icmp .ge 31, 3) := by decide +kernel
theorem dX5_eatenAt_14 : decode cX5_eatenAt 14 = .ok (.iload_n 2, 1) := by decide +kernel
theorem dX5_eatenAt_15 : decode cX5_eatenAt 15 = .ok (.aload_n 0, 1) := by decide +kernel
theorem dX5_eatenAt_16 : decode cX5_eatenAt 16 = .ok (.iload_n 3, 1) := by decide +kernel
theorem dX5_eatenAt_17 : decode cX5_eatenAt 17 = .ok (.iconst 4, 1) := by decide +kernel
theorem dX5_eatenAt_18 : decode cX5_eatenAt 18 = .ok (.invokevirtual 78, 3) := by decide +kernel
theorem dX5_eatenAt_21 : decode cX5_eatenAt 21 = .ok (.iload_n 1, 1) := by decide +kernel
theorem dX5_eatenAt_22 : decode cX5_eatenAt 22 = .ok (.if_icmp .ne 11, 3) := by decide +kernel
theorem dX5_eatenAt_25 : decode cX5_eatenAt 25 = .ok (.aload_n 0, 1) := by decide +kernel
theorem dX5_eatenAt_26 : decode cX5_eatenAt 26 = .ok (.iload_n 3, 1) := by decide +kernel
theorem dX5_eatenAt_27 : decode cX5_eatenAt 27 = .ok (.invokevirtual 81, 3) := by decide +kernel
theorem dX5_eatenAt_30 : decode cX5_eatenAt 30 = .ok (.goto 4, 3) := by decide +kernel
theorem dX5_eatenAt_33 : decode cX5_eatenAt 33 = .ok (.iconst 0, 1) := by decide +kernel
theorem dX5_eatenAt_34 : decode cX5_eatenAt 34 = .ok (.iadd, 1) := by decide +kernel
theorem dX5_eatenAt_35 : decode cX5_eatenAt 35 = .ok (.istore_n 2, 1) := by decide +kernel
theorem dX5_eatenAt_36 : decode cX5_eatenAt 36 = .ok (.iinc 3 1, 3) := by decide +kernel
theorem dX5_eatenAt_39 : decode cX5_eatenAt 39 = .ok (.goto (-35), 3) := by decide +kernel
theorem dX5_eatenAt_42 : decode cX5_eatenAt 42 = .ok (.iload_n 2, 1) := by decide +kernel
theorem dX5_eatenAt_43 : decode cX5_eatenAt 43 = .ok (.ireturn, 1) := by decide +kernel
theorem dX5_houseOf_0 : decode cX5_houseOf 0 = .ok (.iload_n 1, 1) := by decide +kernel
theorem dX5_houseOf_1 : decode cX5_houseOf 1 = .ok (.invokestatic 67, 3) := by decide +kernel
theorem dX5_houseOf_4 : decode cX5_houseOf 4 = .ok (.ifCond .eq 15, 3) := by decide +kernel
theorem dX5_houseOf_7 : decode cX5_houseOf 7 = .ok (.iload_n 2, 1) := by decide +kernel
theorem dX5_houseOf_8 : decode cX5_houseOf 8 = .ok (.i2l, 1) := by decide +kernel
theorem dX5_houseOf_9 : decode cX5_houseOf 9 = .ok (.lconst 0, 1) := by decide +kernel
theorem dX5_houseOf_10 : decode cX5_houseOf 10 = .ok (.ldc2_w 52, 3) := by decide +kernel
theorem dX5_houseOf_13 : decode cX5_houseOf 13 = .ok (.invokestatic 48, 3) := by decide +kernel
theorem dX5_houseOf_16 : decode cX5_houseOf 16 = .ok (.ifCond .ne 10, 3) := by decide +kernel
theorem dX5_houseOf_19 : decode cX5_houseOf 19 = .ok (.aload_n 0, 1) := by decide +kernel
theorem dX5_houseOf_20 : decode cX5_houseOf 20 = .ok (.ldc 45, 2) := by decide +kernel
theorem dX5_houseOf_22 : decode cX5_houseOf 22 = .ok (.invokevirtual 74, 3) := by decide +kernel
theorem dX5_houseOf_25 : decode cX5_houseOf 25 = .ok (.ireturn, 1) := by decide +kernel
theorem dX5_houseOf_26 : decode cX5_houseOf 26 = .ok (.iload_n 2, 1) := by decide +kernel
theorem dX5_houseOf_27 : decode cX5_houseOf 27 = .ok (.iconst 2, 1) := by decide +kernel
theorem dX5_houseOf_28 : decode cX5_houseOf 28 = .ok (.if_icmp .gt 12, 3) := by decide +kernel
theorem dX5_houseOf_31 : decode cX5_houseOf 31 = .ok (.aload_n 0, 1) := by decide +kernel
theorem dX5_houseOf_32 : decode cX5_houseOf 32 = .ok (.iload_n 1, 1) := by decide +kernel
theorem dX5_houseOf_33 : decode cX5_houseOf 33 = .ok (.iload_n 2, 1) := by decide +kernel
theorem dX5_houseOf_34 : decode cX5_houseOf 34 = .ok (.invokevirtual 84, 3) := by decide +kernel
theorem dX5_houseOf_37 : decode cX5_houseOf 37 = .ok (.goto 34, 3) := by decide +kernel
theorem dX5_houseOf_40 : decode cX5_houseOf 40 = .ok (.iload_n 2, 1) := by decide +kernel
theorem dX5_houseOf_41 : decode cX5_houseOf 41 = .ok (.iconst 3, 1) := by decide +kernel
theorem dX5_houseOf_42 : decode cX5_houseOf 42 = .ok (.if_icmp .ne 11, 3) := by decide +kernel
theorem dX5_houseOf_45 : decode cX5_houseOf 45 = .ok (.aload_n 0, 1) := by decide +kernel
theorem dX5_houseOf_46 : decode cX5_houseOf 46 = .ok (.iload_n 1, 1) := by decide +kernel
theorem dX5_houseOf_47 : decode cX5_houseOf 47 = .ok (.invokevirtual 87, 3) := by decide +kernel
theorem dX5_houseOf_50 : decode cX5_houseOf 50 = .ok (.goto 21, 3) := by decide +kernel
theorem dX5_houseOf_53 : decode cX5_houseOf 53 = .ok (.iload_n 2, 1) := by decide +kernel
theorem dX5_houseOf_54 : decode cX5_houseOf 54 = .ok (.iconst 4, 1) := by decide +kernel
theorem dX5_houseOf_55 : decode cX5_houseOf 55 = .ok (.if_icmp .ne 11, 3) := by decide +kernel
theorem dX5_houseOf_58 : decode cX5_houseOf 58 = .ok (.aload_n 0, 1) := by decide +kernel
theorem dX5_houseOf_59 : decode cX5_houseOf 59 = .ok (.iload_n 1, 1) := by decide +kernel
theorem dX5_houseOf_60 : decode cX5_houseOf 60 = .ok (.invokevirtual 90, 3) := by decide +kernel
theorem dX5_houseOf_63 : decode cX5_houseOf 63 = .ok (.goto 8, 3) := by decide +kernel
theorem dX5_houseOf_66 : decode cX5_houseOf 66 = .ok (.aload_n 0, 1) := by decide +kernel
theorem dX5_houseOf_67 : decode cX5_houseOf 67 = .ok (.iload_n 1, 1) := by decide +kernel
theorem dX5_houseOf_68 : decode cX5_houseOf 68 = .ok (.invokevirtual 93, 3) := by decide +kernel
theorem dX5_houseOf_71 : decode cX5_houseOf 71 = .ok (.ireturn, 1) := by decide +kernel
theorem dX5_adds_0 : decode cX5_adds 0 = .ok (.aload_n 0, 1) := by decide +kernel
theorem dX5_adds_1 : decode cX5_adds 1 = .ok (.getfield 7, 3) := by decide +kernel
theorem dX5_adds_4 : decode cX5_adds 4 = .ok (.iconst 0, 1) := by decide +kernel
theorem dX5_adds_5 : decode cX5_adds 5 = .ok (.iaload, 1) := by decide +kernel
theorem dX5_adds_6 : decode cX5_adds 6 = .ok (.istore_n 3, 1) := by decide +kernel
theorem dX5_adds_7 : decode cX5_adds 7 = .ok (.aload_n 0, 1) := by decide +kernel
theorem dX5_adds_8 : decode cX5_adds 8 = .ok (.getfield 7, 3) := by decide +kernel
theorem dX5_adds_11 : decode cX5_adds 11 = .ok (.iload_n 3, 1) := by decide +kernel
theorem dX5_adds_12 : decode cX5_adds 12 = .ok (.iconst 0, 1) := by decide +kernel
theorem dX5_adds_13 : decode cX5_adds 13 = .ok (.invokestatic 56, 3) := by decide +kernel
theorem dX5_adds_16 : decode cX5_adds 16 = .ok (.iload_n 1, 1) := by decide +kernel
theorem dX5_adds_17 : decode cX5_adds 17 = .ok (.iastore, 1) := by decide +kernel
theorem dX5_adds_18 : decode cX5_adds 18 = .ok (.aload_n 0, 1) := by decide +kernel
theorem dX5_adds_19 : decode cX5_adds 19 = .ok (.getfield 7, 3) := by decide +kernel
theorem dX5_adds_22 : decode cX5_adds 22 = .ok (.iload_n 3, 1) := by decide +kernel
theorem dX5_adds_23 : decode cX5_adds 23 = .ok (.iconst 1, 1) := by decide +kernel
theorem dX5_adds_24 : decode cX5_adds 24 = .ok (.invokestatic 56, 3) := by decide +kernel
theorem dX5_adds_27 : decode cX5_adds 27 = .ok (.iload_n 2, 1) := by decide +kernel
theorem dX5_adds_28 : decode cX5_adds 28 = .ok (.iastore, 1) := by decide +kernel
theorem dX5_adds_29 : decode cX5_adds 29 = .ok (.aload_n 0, 1) := by decide +kernel
theorem dX5_adds_30 : decode cX5_adds 30 = .ok (.getfield 7, 3) := by decide +kernel
theorem dX5_adds_33 : decode cX5_adds 33 = .ok (.iload_n 3, 1) := by decide +kernel
theorem dX5_adds_34 : decode cX5_adds 34 = .ok (.iconst 2, 1) := by decide +kernel
theorem dX5_adds_35 : decode cX5_adds 35 = .ok (.invokestatic 56, 3) := by decide +kernel
theorem dX5_adds_38 : decode cX5_adds 38 = .ok (.bipush 10, 2) := by decide +kernel
theorem dX5_adds_40 : decode cX5_adds 40 = .ok (.iastore, 1) := by decide +kernel
theorem dX5_adds_41 : decode cX5_adds 41 = .ok (.aload_n 0, 1) := by decide +kernel
theorem dX5_adds_42 : decode cX5_adds 42 = .ok (.getfield 7, 3) := by decide +kernel
theorem dX5_adds_45 : decode cX5_adds 45 = .ok (.iload_n 3, 1) := by decide +kernel
theorem dX5_adds_46 : decode cX5_adds 46 = .ok (.iconst 3, 1) := by decide +kernel
theorem dX5_adds_47 : decode cX5_adds 47 = .ok (.invokestatic 56, 3) := by decide +kernel
theorem dX5_adds_50 : decode cX5_adds 50 = .ok (.iconst 0, 1) := by decide +kernel
theorem dX5_adds_51 : decode cX5_adds 51 = .ok (.iastore, 1) := by decide +kernel
theorem dX5_adds_52 : decode cX5_adds 52 = .ok (.aload_n 0, 1) := by decide +kernel
theorem dX5_adds_53 : decode cX5_adds 53 = .ok (.getfield 7, 3) := by decide +kernel
theorem dX5_adds_56 : decode cX5_adds 56 = .ok (.iload_n 3, 1) := by decide +kernel
theorem dX5_adds_57 : decode cX5_adds 57 = .ok (.iconst 4, 1) := by decide +kernel
theorem dX5_adds_58 : decode cX5_adds 58 = .ok (.invokestatic 56, 3) := by decide +kernel
theorem dX5_adds_61 : decode cX5_adds 61 = .ok (.iconst (-1), 1) := by decide +kernel
theorem dX5_adds_62 : decode cX5_adds 62 = .ok (.iastore, 1) := by decide +kernel
theorem dX5_adds_63 : decode cX5_adds 63 = .ok (.aload_n 0, 1) := by decide +kernel
theorem dX5_adds_64 : decode cX5_adds 64 = .ok (.getfield 7, 3) := by decide +kernel
theorem dX5_adds_67 : decode cX5_adds 67 = .ok (.iconst 0, 1) := by decide +kernel
theorem dX5_adds_68 : decode cX5_adds 68 = .ok (.dup2, 1) := by decide +kernel
theorem dX5_adds_69 : decode cX5_adds 69 = .ok (.iaload, 1) := by decide +kernel
theorem dX5_adds_70 : decode cX5_adds 70 = .ok (.iconst 1, 1) := by decide +kernel
theorem dX5_adds_71 : decode cX5_adds 71 = .ok (.iadd, 1) := by decide +kernel
theorem dX5_adds_72 : decode cX5_adds 72 = .ok (.iastore, 1) := by decide +kernel
theorem dX5_adds_73 : decode cX5_adds 73 = .ok (.iload_n 3, 1) := by decide +kernel
theorem dX5_adds_74 : decode cX5_adds 74 = .ok (.ireturn, 1) := by decide +kernel
theorem dX5_rumour_0 : decode cX5_rumour 0 = .ok (.iload_n 1, 1) := by decide +kernel
theorem dX5_rumour_1 : decode cX5_rumour 1 = .ok (.invokestatic 96, 3) := by decide +kernel
theorem dX5_rumour_4 : decode cX5_rumour 4 = .ok (.ifCond .eq 10, 3) := by decide +kernel
theorem dX5_rumour_7 : decode cX5_rumour 7 = .ok (.iload_n 2, 1) := by decide +kernel
theorem dX5_rumour_8 : decode cX5_rumour 8 = .ok (.invokestatic 99, 3) := by decide +kernel
theorem dX5_rumour_11 : decode cX5_rumour 11 = .ok (.ifCond .ne 10, 3) := by decide +kernel
theorem dX5_rumour_14 : decode cX5_rumour 14 = .ok (.aload_n 0, 1) := by decide +kernel
theorem dX5_rumour_15 : decode cX5_rumour 15 = .ok (.ldc 45, 2) := by decide +kernel
theorem dX5_rumour_17 : decode cX5_rumour 17 = .ok (.invokevirtual 74, 3) := by decide +kernel
theorem dX5_rumour_20 : decode cX5_rumour 20 = .ok (.ireturn, 1) := by decide +kernel
theorem dX5_rumour_21 : decode cX5_rumour 21 = .ok (.aload_n 0, 1) := by decide +kernel
theorem dX5_rumour_22 : decode cX5_rumour 22 = .ok (.getfield 7, 3) := by decide +kernel
theorem dX5_rumour_25 : decode cX5_rumour 25 = .ok (.iconst 0, 1) := by decide +kernel
theorem dX5_rumour_26 : decode cX5_rumour 26 = .ok (.iaload, 1) := by decide +kernel
theorem dX5_rumour_27 : decode cX5_rumour 27 = .ok (.bipush 10, 2) := by decide +kernel
theorem dX5_rumour_29 : decode cX5_rumour 29 = .ok (.if_icmp .ne 12, 3) := by decide +kernel
theorem dX5_rumour_32 : decode cX5_rumour 32 = .ok (.aload_n 0, 1) := by decide +kernel
theorem dX5_rumour_33 : decode cX5_rumour 33 = .ok (.ldc 102, 2) := by decide +kernel
theorem dX5_rumour_35 : decode cX5_rumour 35 = .ok (.invokevirtual 74, 3) := by decide +kernel
theorem dX5_rumour_38 : decode cX5_rumour 38 = .ok (.goto 9, 3) := by decide +kernel
theorem dX5_rumour_41 : decode cX5_rumour 41 = .ok (.aload_n 0, 1) := by decide +kernel
theorem dX5_rumour_42 : decode cX5_rumour 42 = .ok (.iload_n 1, 1) := by decide +kernel
theorem dX5_rumour_43 : decode cX5_rumour 43 = .ok (.iload_n 2, 1) := by decide +kernel
theorem dX5_rumour_44 : decode cX5_rumour 44 = .ok (.invokevirtual 103, 3) := by decide +kernel
theorem dX5_rumour_47 : decode cX5_rumour 47 = .ok (.ireturn, 1) := by decide +kernel
theorem dX5_eats_0 : decode cX5_eats 0 = .ok (.aload_n 0, 1) := by decide +kernel
theorem dX5_eats_1 : decode cX5_eats 1 = .ok (.iload_n 1, 1) := by decide +kernel
theorem dX5_eats_2 : decode cX5_eats 2 = .ok (.iconst 2, 1) := by decide +kernel
theorem dX5_eats_3 : decode cX5_eats 3 = .ok (.invokevirtual 78, 3) := by decide +kernel
theorem dX5_eats_6 : decode cX5_eats 6 = .ok (.bipush 10, 2) := by decide +kernel
theorem dX5_eats_8 : decode cX5_eats 8 = .ok (.idiv, 1) := by decide +kernel
theorem dX5_eats_9 : decode cX5_eats 9 = .ok (.iconst 1, 1) := by decide +kernel
theorem dX5_eats_10 : decode cX5_eats 10 = .ok (.iadd, 1) := by decide +kernel
theorem dX5_eats_11 : decode cX5_eats 11 = .ok (.istore_n 2, 1) := by decide +kernel
theorem dX5_eats_12 : decode cX5_eats 12 = .ok (.iload_n 2, 1) := by decide +kernel
theorem dX5_eats_13 : decode cX5_eats 13 = .ok (.aload_n 0, 1) := by decide +kernel
theorem dX5_eats_14 : decode cX5_eats 14 = .ok (.iload_n 1, 1) := by decide +kernel
theorem dX5_eats_15 : decode cX5_eats 15 = .ok (.iconst 3, 1) := by decide +kernel
theorem dX5_eats_16 : decode cX5_eats 16 = .ok (.invokevirtual 78, 3) := by decide +kernel
theorem dX5_eats_19 : decode cX5_eats 19 = .ok (.bipush 10, 2) := by decide +kernel
theorem dX5_eats_21 : decode cX5_eats 21 = .ok (.idiv, 1) := by decide +kernel
theorem dX5_eats_22 : decode cX5_eats 22 = .ok (.isub, 1) := by decide +kernel
theorem dX5_eats_23 : decode cX5_eats 23 = .ok (.istore_n 3, 1) := by decide +kernel
theorem dX5_eats_24 : decode cX5_eats 24 = .ok (.aload_n 0, 1) := by decide +kernel
theorem dX5_eats_25 : decode cX5_eats 25 = .ok (.iload_n 1, 1) := by decide +kernel
theorem dX5_eats_26 : decode cX5_eats 26 = .ok (.iconst 0, 1) := by decide +kernel
theorem dX5_eats_27 : decode cX5_eats 27 = .ok (.invokevirtual 78, 3) := by decide +kernel
theorem dX5_eats_30 : decode cX5_eats 30 = .ok (.tableswitch 58 1 5 #[34, 38, 40, 50, 56], 34) := by decide +kernel
theorem dX5_eats_64 : decode cX5_eats 64 = .ok (.iconst 2, 1) := by decide +kernel
theorem dX5_eats_65 : decode cX5_eats 65 = .ok (.iload_n 2, 1) := by decide +kernel
theorem dX5_eats_66 : decode cX5_eats 66 = .ok (.imul, 1) := by decide +kernel
theorem dX5_eats_67 : decode cX5_eats 67 = .ok (.ireturn, 1) := by decide +kernel
theorem dX5_eats_68 : decode cX5_eats 68 = .ok (.iconst 1, 1) := by decide +kernel
theorem dX5_eats_69 : decode cX5_eats 69 = .ok (.ireturn, 1) := by decide +kernel
theorem dX5_eats_70 : decode cX5_eats 70 = .ok (.iload_n 3, 1) := by decide +kernel
theorem dX5_eats_71 : decode cX5_eats 71 = .ok (.ifCond .ge 7, 3) := by decide +kernel
theorem dX5_eats_74 : decode cX5_eats 74 = .ok (.iconst 0, 1) := by decide +kernel
theorem dX5_eats_75 : decode cX5_eats 75 = .ok (.goto 4, 3) := by decide +kernel
theorem dX5_eats_78 : decode cX5_eats 78 = .ok (.iload_n 3, 1) := by decide +kernel
theorem dX5_eats_79 : decode cX5_eats 79 = .ok (.ireturn, 1) := by decide +kernel
theorem dX5_eats_80 : decode cX5_eats 80 = .ok (.iconst 2, 1) := by decide +kernel
theorem dX5_eats_81 : decode cX5_eats 81 = .ok (.iload_n 2, 1) := by decide +kernel
theorem dX5_eats_82 : decode cX5_eats 82 = .ok (.imul, 1) := by decide +kernel
theorem dX5_eats_83 : decode cX5_eats 83 = .ok (.iconst 3, 1) := by decide +kernel
theorem dX5_eats_84 : decode cX5_eats 84 = .ok (.iadd, 1) := by decide +kernel
theorem dX5_eats_85 : decode cX5_eats 85 = .ok (.ireturn, 1) := by decide +kernel
theorem dX5_eats_86 : decode cX5_eats 86 = .ok (.iconst 0, 1) := by decide +kernel
theorem dX5_eats_87 : decode cX5_eats 87 = .ok (.ireturn, 1) := by decide +kernel
theorem dX5_eats_88 : decode cX5_eats 88 = .ok (.iload_n 2, 1) := by decide +kernel
theorem dX5_eats_89 : decode cX5_eats 89 = .ok (.ireturn, 1) := by decide +kernel
theorem dX5_needs_0 : decode cX5_needs 0 = .ok (.aload_n 0, 1) := by decide +kernel
theorem dX5_needs_1 : decode cX5_needs 1 = .ok (.iload_n 1, 1) := by decide +kernel
theorem dX5_needs_2 : decode cX5_needs 2 = .ok (.iconst 2, 1) := by decide +kernel
theorem dX5_needs_3 : decode cX5_needs 3 = .ok (.invokevirtual 78, 3) := by decide +kernel
theorem dX5_needs_6 : decode cX5_needs 6 = .ok (.bipush 20, 2) := by decide +kernel
theorem dX5_needs_8 : decode cX5_needs 8 = .ok (.if_icmp .ge 7, 3) := by decide +kernel
theorem dX5_needs_11 : decode cX5_needs 11 = .ok (.iconst 1, 1) := by decide +kernel
theorem dX5_needs_12 : decode cX5_needs 12 = .ok (.goto 4, 3) := by decide +kernel
theorem dX5_needs_15 : decode cX5_needs 15 = .ok (.iconst 3, 1) := by decide +kernel
theorem dX5_needs_16 : decode cX5_needs 16 = .ok (.istore_n 2, 1) := by decide +kernel
theorem dX5_needs_17 : decode cX5_needs 17 = .ok (.aload_n 0, 1) := by decide +kernel
theorem dX5_needs_18 : decode cX5_needs 18 = .ok (.iload_n 1, 1) := by decide +kernel
theorem dX5_needs_19 : decode cX5_needs 19 = .ok (.iconst 0, 1) := by decide +kernel
theorem dX5_needs_20 : decode cX5_needs 20 = .ok (.invokevirtual 78, 3) := by decide +kernel
theorem dX5_needs_23 : decode cX5_needs 23 = .ok (.tableswitch 47 1 5 #[33, 35, 38, 40, 44], 33) := by decide +kernel
theorem dX5_needs_56 : decode cX5_needs 56 = .ok (.iload_n 2, 1) := by decide +kernel
theorem dX5_needs_57 : decode cX5_needs 57 = .ok (.ireturn, 1) := by decide +kernel
theorem dX5_needs_58 : decode cX5_needs 58 = .ok (.bipush 6, 2) := by decide +kernel
theorem dX5_needs_60 : decode cX5_needs 60 = .ok (.ireturn, 1) := by decide +kernel
theorem dX5_needs_61 : decode cX5_needs 61 = .ok (.iconst 4, 1) := by decide +kernel
theorem dX5_needs_62 : decode cX5_needs 62 = .ok (.ireturn, 1) := by decide +kernel
theorem dX5_needs_63 : decode cX5_needs 63 = .ok (.iload_n 2, 1) := by decide +kernel
theorem dX5_needs_64 : decode cX5_needs 64 = .ok (.iconst 1, 1) := by decide +kernel
theorem dX5_needs_65 : decode cX5_needs 65 = .ok (.isub, 1) := by decide +kernel
theorem dX5_needs_66 : decode cX5_needs 66 = .ok (.ireturn, 1) := by decide +kernel
theorem dX5_needs_67 : decode cX5_needs 67 = .ok (.bipush 7, 2) := by decide +kernel
theorem dX5_needs_69 : decode cX5_needs 69 = .ok (.ireturn, 1) := by decide +kernel
theorem dX5_needs_70 : decode cX5_needs 70 = .ok (.iconst 3, 1) := by decide +kernel
theorem dX5_needs_71 : decode cX5_needs 71 = .ok (.ireturn, 1) := by decide +kernel
theorem dX5_grows_0 : decode cX5_grows 0 = .ok (.aload_n 0, 1) := by decide +kernel
theorem dX5_grows_1 : decode cX5_grows 1 = .ok (.iload_n 1, 1) := by decide +kernel
theorem dX5_grows_2 : decode cX5_grows 2 = .ok (.iconst 0, 1) := by decide +kernel
theorem dX5_grows_3 : decode cX5_grows 3 = .ok (.invokevirtual 78, 3) := by decide +kernel
theorem dX5_grows_6 : decode cX5_grows 6 = .ok (.tableswitch 65 1 5 #[34, 46, 48, 34, 46], 34) := by decide +kernel
theorem dX5_grows_40 : decode cX5_grows 40 = .ok (.aload_n 0, 1) := by decide +kernel
theorem dX5_grows_41 : decode cX5_grows 41 = .ok (.iload_n 1, 1) := by decide +kernel
theorem dX5_grows_42 : decode cX5_grows 42 = .ok (.iconst 2, 1) := by decide +kernel
theorem dX5_grows_43 : decode cX5_grows 43 = .ok (.invokevirtual 78, 3) := by decide +kernel
theorem dX5_grows_46 : decode cX5_grows 46 = .ok (.bipush 10, 2) := by decide +kernel
theorem dX5_grows_48 : decode cX5_grows 48 = .ok (.idiv, 1) := by decide +kernel
theorem dX5_grows_49 : decode cX5_grows 49 = .ok (.iconst 1, 1) := by decide +kernel
theorem dX5_grows_50 : decode cX5_grows 50 = .ok (.iadd, 1) := by decide +kernel
theorem dX5_grows_51 : decode cX5_grows 51 = .ok (.ireturn, 1) := by decide +kernel
theorem dX5_grows_52 : decode cX5_grows 52 = .ok (.iconst 0, 1) := by decide +kernel
theorem dX5_grows_53 : decode cX5_grows 53 = .ok (.ireturn, 1) := by decide +kernel
theorem dX5_grows_54 : decode cX5_grows 54 = .ok (.aload_n 0, 1) := by decide +kernel
theorem dX5_grows_55 : decode cX5_grows 55 = .ok (.iload_n 1, 1) := by decide +kernel
theorem dX5_grows_56 : decode cX5_grows 56 = .ok (.iconst 3, 1) := by decide +kernel
theorem dX5_grows_57 : decode cX5_grows 57 = .ok (.invokevirtual 78, 3) := by decide +kernel
theorem dX5_grows_60 : decode cX5_grows 60 = .ok (.iconst 2, 1) := by decide +kernel
theorem dX5_grows_61 : decode cX5_grows 61 = .ok (.irem, 1) := by decide +kernel
theorem dX5_grows_62 : decode cX5_grows 62 = .ok (.ifCond .ne 7, 3) := by decide +kernel
theorem dX5_grows_65 : decode cX5_grows 65 = .ok (.iconst 1, 1) := by decide +kernel
theorem dX5_grows_66 : decode cX5_grows 66 = .ok (.goto 4, 3) := by decide +kernel
theorem dX5_grows_69 : decode cX5_grows 69 = .ok (.iconst 0, 1) := by decide +kernel
theorem dX5_grows_70 : decode cX5_grows 70 = .ok (.ireturn, 1) := by decide +kernel
theorem dX5_grows_71 : decode cX5_grows 71 = .ok (.iconst 1, 1) := by decide +kernel
theorem dX5_grows_72 : decode cX5_grows 72 = .ok (.ireturn, 1) := by decide +kernel
theorem dX5_of_0 : decode cX5_of 0 = .ok (.aload_n 0, 1) := by decide +kernel
theorem dX5_of_1 : decode cX5_of 1 = .ok (.iload_n 1, 1) := by decide +kernel
theorem dX5_of_2 : decode cX5_of 2 = .ok (.invokevirtual 106, 3) := by decide +kernel
theorem dX5_of_5 : decode cX5_of 5 = .ok (.ifCond .eq 15, 3) := by decide +kernel
theorem dX5_of_8 : decode cX5_of 8 = .ok (.iload_n 2, 1) := by decide +kernel
theorem dX5_of_9 : decode cX5_of 9 = .ok (.i2l, 1) := by decide +kernel
theorem dX5_of_10 : decode cX5_of 10 = .ok (.lconst 0, 1) := by decide +kernel
theorem dX5_of_11 : decode cX5_of 11 = .ok (.ldc2_w 46, 3) := by decide +kernel
theorem dX5_of_14 : decode cX5_of 14 = .ok (.invokestatic 48, 3) := by decide +kernel
theorem dX5_of_17 : decode cX5_of 17 = .ok (.ifCond .ne 10, 3) := by decide +kernel
theorem dX5_of_20 : decode cX5_of 20 = .ok (.aload_n 0, 1) := by decide +kernel
theorem dX5_of_21 : decode cX5_of 21 = .ok (.ldc 45, 2) := by decide +kernel
theorem dX5_of_23 : decode cX5_of 23 = .ok (.invokevirtual 74, 3) := by decide +kernel
theorem dX5_of_26 : decode cX5_of 26 = .ok (.ireturn, 1) := by decide +kernel
theorem dX5_of_27 : decode cX5_of 27 = .ok (.iload_n 2, 1) := by decide +kernel
theorem dX5_of_28 : decode cX5_of 28 = .ok (.iconst 4, 1) := by decide +kernel
theorem dX5_of_29 : decode cX5_of 29 = .ok (.if_icmp .gt 12, 3) := by decide +kernel
theorem dX5_of_32 : decode cX5_of 32 = .ok (.aload_n 0, 1) := by decide +kernel
theorem dX5_of_33 : decode cX5_of 33 = .ok (.iload_n 1, 1) := by decide +kernel
theorem dX5_of_34 : decode cX5_of 34 = .ok (.iload_n 2, 1) := by decide +kernel
theorem dX5_of_35 : decode cX5_of 35 = .ok (.invokevirtual 78, 3) := by decide +kernel
theorem dX5_of_38 : decode cX5_of 38 = .ok (.goto 35, 3) := by decide +kernel
theorem dX5_of_41 : decode cX5_of 41 = .ok (.iload_n 2, 1) := by decide +kernel
theorem dX5_of_42 : decode cX5_of 42 = .ok (.iconst 5, 1) := by decide +kernel
theorem dX5_of_43 : decode cX5_of 43 = .ok (.if_icmp .ne 11, 3) := by decide +kernel
theorem dX5_of_46 : decode cX5_of 46 = .ok (.aload_n 0, 1) := by decide +kernel
theorem dX5_of_47 : decode cX5_of 47 = .ok (.iload_n 1, 1) := by decide +kernel
theorem dX5_of_48 : decode cX5_of 48 = .ok (.invokevirtual 81, 3) := by decide +kernel
theorem dX5_of_51 : decode cX5_of 51 = .ok (.goto 22, 3) := by decide +kernel
theorem dX5_of_54 : decode cX5_of 54 = .ok (.iload_n 2, 1) := by decide +kernel
theorem dX5_of_55 : decode cX5_of 55 = .ok (.bipush 6, 2) := by decide +kernel
theorem dX5_of_57 : decode cX5_of 57 = .ok (.if_icmp .ne 11, 3) := by decide +kernel
theorem dX5_of_60 : decode cX5_of 60 = .ok (.aload_n 0, 1) := by decide +kernel
theorem dX5_of_61 : decode cX5_of 61 = .ok (.iload_n 1, 1) := by decide +kernel
theorem dX5_of_62 : decode cX5_of 62 = .ok (.invokevirtual 109, 3) := by decide +kernel
theorem dX5_of_65 : decode cX5_of 65 = .ok (.goto 8, 3) := by decide +kernel
theorem dX5_of_68 : decode cX5_of 68 = .ok (.aload_n 0, 1) := by decide +kernel
theorem dX5_of_69 : decode cX5_of 69 = .ok (.iload_n 1, 1) := by decide +kernel
theorem dX5_of_70 : decode cX5_of 70 = .ok (.invokevirtual 112, 3) := by decide +kernel
theorem dX5_of_73 : decode cX5_of 73 = .ok (.ireturn, 1) := by decide +kernel
theorem dX5_set_0 : decode cX5_set 0 = .ok (.iload_n 2, 1) := by decide +kernel
theorem dX5_set_1 : decode cX5_set 1 = .ok (.i2l, 1) := by decide +kernel
theorem dX5_set_2 : decode cX5_set 2 = .ok (.lconst 1, 1) := by decide +kernel
theorem dX5_set_3 : decode cX5_set 3 = .ok (.ldc2_w 61, 3) := by decide +kernel
theorem dX5_set_6 : decode cX5_set 6 = .ok (.invokestatic 48, 3) := by decide +kernel
theorem dX5_set_9 : decode cX5_set 9 = .ok (.ifCond .eq 41, 3) := by decide +kernel
theorem dX5_set_12 : decode cX5_set 12 = .ok (.iload_n 3, 1) := by decide +kernel
theorem dX5_set_13 : decode cX5_set 13 = .ok (.i2l, 1) := by decide +kernel
theorem dX5_set_14 : decode cX5_set 14 = .ok (.lconst 0, 1) := by decide +kernel
theorem dX5_set_15 : decode cX5_set 15 = .ok (.iload_n 2, 1) := by decide +kernel
theorem dX5_set_16 : decode cX5_set 16 = .ok (.iconst 1, 1) := by decide +kernel
theorem dX5_set_17 : decode cX5_set 17 = .ok (.if_icmp .ne 9, 3) := by decide +kernel
theorem dX5_set_20 : decode cX5_set 20 = .ok (.ldc2_w 54, 3) := by decide +kernel
theorem dX5_set_23 : decode cX5_set 23 = .ok (.goto 17, 3) := by decide +kernel
theorem dX5_set_26 : decode cX5_set 26 = .ok (.iload_n 2, 1) := by decide +kernel
theorem dX5_set_27 : decode cX5_set 27 = .ok (.iconst 2, 1) := by decide +kernel
theorem dX5_set_28 : decode cX5_set 28 = .ok (.if_icmp .ne 9, 3) := by decide +kernel
theorem dX5_set_31 : decode cX5_set 31 = .ok (.ldc2_w 115, 3) := by decide +kernel
theorem dX5_set_34 : decode cX5_set 34 = .ok (.goto 6, 3) := by decide +kernel
theorem dX5_set_37 : decode cX5_set 37 = .ok (.ldc2_w 63, 3) := by decide +kernel
theorem dX5_set_40 : decode cX5_set 40 = .ok (.invokestatic 48, 3) := by decide +kernel
theorem dX5_set_43 : decode cX5_set 43 = .ok (.ifCond .eq 7, 3) := by decide +kernel
theorem dX5_set_46 : decode cX5_set 46 = .ok (.iconst 1, 1) := by decide +kernel
theorem dX5_set_47 : decode cX5_set 47 = .ok (.goto 4, 3) := by decide +kernel
theorem dX5_set_50 : decode cX5_set 50 = .ok (.iconst 0, 1) := by decide +kernel
theorem dX5_set_51 : decode cX5_set 51 = .ok (.istore 4, 2) := by decide +kernel
theorem dX5_set_53 : decode cX5_set 53 = .ok (.aload_n 0, 1) := by decide +kernel
theorem dX5_set_54 : decode cX5_set 54 = .ok (.iload_n 1, 1) := by decide +kernel
theorem dX5_set_55 : decode cX5_set 55 = .ok (.invokevirtual 106, 3) := by decide +kernel
theorem dX5_set_58 : decode cX5_set 58 = .ok (.ifCond .eq 21, 3) := by decide +kernel
theorem dX5_set_61 : decode cX5_set 61 = .ok (.iload 4, 2) := by decide +kernel
theorem dX5_set_63 : decode cX5_set 63 = .ok (.ifCond .eq 16, 3) := by decide +kernel
theorem dX5_set_66 : decode cX5_set 66 = .ok (.aload_n 0, 1) := by decide +kernel
theorem dX5_set_67 : decode cX5_set 67 = .ok (.iload_n 1, 1) := by decide +kernel
theorem dX5_set_68 : decode cX5_set 68 = .ok (.iload_n 2, 1) := by decide +kernel
theorem dX5_set_69 : decode cX5_set 69 = .ok (.invokestatic 56, 3) := by decide +kernel
theorem dX5_set_72 : decode cX5_set 72 = .ok (.iload_n 3, 1) := by decide +kernel
theorem dX5_set_73 : decode cX5_set 73 = .ok (.invokevirtual 71, 3) := by decide +kernel
theorem dX5_set_76 : decode cX5_set 76 = .ok (.goto 9, 3) := by decide +kernel
theorem dX5_set_79 : decode cX5_set 79 = .ok (.aload_n 0, 1) := by decide +kernel
theorem dX5_set_80 : decode cX5_set 80 = .ok (.ldc 45, 2) := by decide +kernel
theorem dX5_set_82 : decode cX5_set 82 = .ok (.invokevirtual 74, 3) := by decide +kernel
theorem dX5_set_85 : decode cX5_set 85 = .ok (.ireturn, 1) := by decide +kernel
theorem dX5_turn_0 : decode cX5_turn 0 = .ok (.aload_n 0, 1) := by decide +kernel
theorem dX5_turn_1 : decode cX5_turn 1 = .ok (.iload_n 1, 1) := by decide +kernel
theorem dX5_turn_2 : decode cX5_turn 2 = .ok (.invokevirtual 106, 3) := by decide +kernel
theorem dX5_turn_5 : decode cX5_turn 5 = .ok (.ifCond .eq 23, 3) := by decide +kernel
theorem dX5_turn_8 : decode cX5_turn 8 = .ok (.iload_n 2, 1) := by decide +kernel
theorem dX5_turn_9 : decode cX5_turn 9 = .ok (.invokestatic 96, 3) := by decide +kernel
theorem dX5_turn_12 : decode cX5_turn 12 = .ok (.ifCond .eq 16, 3) := by decide +kernel
theorem dX5_turn_15 : decode cX5_turn 15 = .ok (.aload_n 0, 1) := by decide +kernel
theorem dX5_turn_16 : decode cX5_turn 16 = .ok (.iload_n 1, 1) := by decide +kernel
theorem dX5_turn_17 : decode cX5_turn 17 = .ok (.iconst 0, 1) := by decide +kernel
theorem dX5_turn_18 : decode cX5_turn 18 = .ok (.invokestatic 56, 3) := by decide +kernel
theorem dX5_turn_21 : decode cX5_turn 21 = .ok (.iload_n 2, 1) := by decide +kernel
theorem dX5_turn_22 : decode cX5_turn 22 = .ok (.invokevirtual 71, 3) := by decide +kernel
theorem dX5_turn_25 : decode cX5_turn 25 = .ok (.goto 9, 3) := by decide +kernel
theorem dX5_turn_28 : decode cX5_turn 28 = .ok (.aload_n 0, 1) := by decide +kernel
theorem dX5_turn_29 : decode cX5_turn 29 = .ok (.ldc 45, 2) := by decide +kernel
theorem dX5_turn_31 : decode cX5_turn 31 = .ok (.invokevirtual 74, 3) := by decide +kernel
theorem dX5_turn_34 : decode cX5_turn 34 = .ok (.ireturn, 1) := by decide +kernel
theorem dX5_isUnder_0 : decode cX5_isUnder 0 = .ok (.iload_n 1, 1) := by decide +kernel
theorem dX5_isUnder_1 : decode cX5_isUnder 1 = .ok (.ifCond .eq 20, 3) := by decide +kernel
theorem dX5_isUnder_4 : decode cX5_isUnder 4 = .ok (.iload_n 0, 1) := by decide +kernel
theorem dX5_isUnder_5 : decode cX5_isUnder 5 = .ok (.iload_n 1, 1) := by decide +kernel
theorem dX5_isUnder_6 : decode cX5_isUnder 6 = .ok (.if_icmp .eq 15, 3) := by decide +kernel
theorem dX5_isUnder_9 : decode cX5_isUnder 9 = .ok (.iload_n 0, 1) := by decide +kernel
theorem dX5_isUnder_10 : decode cX5_isUnder 10 = .ok (.iconst 3, 1) := by decide +kernel
theorem dX5_isUnder_11 : decode cX5_isUnder 11 = .ok (.if_icmp .le 14, 3) := by decide +kernel
theorem dX5_isUnder_14 : decode cX5_isUnder 14 = .ok (.iload_n 0, 1) := by decide +kernel
theorem dX5_isUnder_15 : decode cX5_isUnder 15 = .ok (.iconst 3, 1) := by decide +kernel
theorem dX5_isUnder_16 : decode cX5_isUnder 16 = .ok (.isub, 1) := by decide +kernel
theorem dX5_isUnder_17 : decode cX5_isUnder 17 = .ok (.iload_n 1, 1) := by decide +kernel
theorem dX5_isUnder_18 : decode cX5_isUnder 18 = .ok (.if_icmp .ne 7, 3) := by decide +kernel
theorem dX5_isUnder_21 : decode cX5_isUnder 21 = .ok (.iconst 1, 1) := by decide +kernel
theorem dX5_isUnder_22 : decode cX5_isUnder 22 = .ok (.goto 4, 3) := by decide +kernel
theorem dX5_isUnder_25 : decode cX5_isUnder 25 = .ok (.iconst 0, 1) := by decide +kernel
theorem dX5_isUnder_26 : decode cX5_isUnder 26 = .ok (.ireturn, 1) := by decide +kernel
theorem dX5_as_0 : decode cX5_as 0 = .ok (.aload_n 0, 1) := by decide +kernel
theorem dX5_as_1 : decode cX5_as 1 = .ok (.iload_n 1, 1) := by decide +kernel
theorem dX5_as_2 : decode cX5_as 2 = .ok (.invokevirtual 106, 3) := by decide +kernel
theorem dX5_as_5 : decode cX5_as 5 = .ok (.ifCond .eq 10, 3) := by decide +kernel
theorem dX5_as_8 : decode cX5_as 8 = .ok (.iload_n 2, 1) := by decide +kernel
theorem dX5_as_9 : decode cX5_as 9 = .ok (.invokestatic 96, 3) := by decide +kernel
theorem dX5_as_12 : decode cX5_as 12 = .ok (.ifCond .ne 10, 3) := by decide +kernel
theorem dX5_as_15 : decode cX5_as 15 = .ok (.aload_n 0, 1) := by decide +kernel
theorem dX5_as_16 : decode cX5_as 16 = .ok (.ldc 45, 2) := by decide +kernel
theorem dX5_as_18 : decode cX5_as 18 = .ok (.invokevirtual 74, 3) := by decide +kernel
theorem dX5_as_21 : decode cX5_as 21 = .ok (.ireturn, 1) := by decide +kernel
theorem dX5_as_22 : decode cX5_as 22 = .ok (.aload_n 0, 1) := by decide +kernel
theorem dX5_as_23 : decode cX5_as 23 = .ok (.iload_n 1, 1) := by decide +kernel
theorem dX5_as_24 : decode cX5_as 24 = .ok (.iconst 0, 1) := by decide +kernel
theorem dX5_as_25 : decode cX5_as 25 = .ok (.invokevirtual 78, 3) := by decide +kernel
theorem dX5_as_28 : decode cX5_as 28 = .ok (.iload_n 2, 1) := by decide +kernel
theorem dX5_as_29 : decode cX5_as 29 = .ok (.invokestatic 117, 3) := by decide +kernel
theorem dX5_as_32 : decode cX5_as 32 = .ok (.ifCond .eq 12, 3) := by decide +kernel
theorem dX5_as_35 : decode cX5_as 35 = .ok (.aload_n 0, 1) := by decide +kernel
theorem dX5_as_36 : decode cX5_as 36 = .ok (.iload_n 1, 1) := by decide +kernel
theorem dX5_as_37 : decode cX5_as 37 = .ok (.iconst 2, 1) := by decide +kernel
theorem dX5_as_38 : decode cX5_as 38 = .ok (.invokevirtual 78, 3) := by decide +kernel
theorem dX5_as_41 : decode cX5_as 41 = .ok (.goto 9, 3) := by decide +kernel
theorem dX5_as_44 : decode cX5_as 44 = .ok (.aload_n 0, 1) := by decide +kernel
theorem dX5_as_45 : decode cX5_as 45 = .ok (.ldc 121, 2) := by decide +kernel
theorem dX5_as_47 : decode cX5_as 47 = .ok (.invokevirtual 74, 3) := by decide +kernel
theorem dX5_as_50 : decode cX5_as 50 = .ok (.ireturn, 1) := by decide +kernel
theorem dX5_isFree_0 : decode cX5_isFree 0 = .ok (.aload_n 0, 1) := by decide +kernel
theorem dX5_isFree_1 : decode cX5_isFree 1 = .ok (.iload_n 1, 1) := by decide +kernel
theorem dX5_isFree_2 : decode cX5_isFree 2 = .ok (.invokevirtual 87, 3) := by decide +kernel
theorem dX5_isFree_5 : decode cX5_isFree 5 = .ok (.invokestatic 122, 3) := by decide +kernel
theorem dX5_isFree_8 : decode cX5_isFree 8 = .ok (.aload_n 0, 1) := by decide +kernel
theorem dX5_isFree_9 : decode cX5_isFree 9 = .ok (.iload_n 1, 1) := by decide +kernel
theorem dX5_isFree_10 : decode cX5_isFree 10 = .ok (.iconst 0, 1) := by decide +kernel
theorem dX5_isFree_11 : decode cX5_isFree 11 = .ok (.invokevirtual 84, 3) := by decide +kernel
theorem dX5_isFree_14 : decode cX5_isFree 14 = .ok (.if_icmp .ge 7, 3) := by decide +kernel
theorem dX5_isFree_17 : decode cX5_isFree 17 = .ok (.iconst 1, 1) := by decide +kernel
theorem dX5_isFree_18 : decode cX5_isFree 18 = .ok (.goto 4, 3) := by decide +kernel
theorem dX5_isFree_21 : decode cX5_isFree 21 = .ok (.iconst 0, 1) := by decide +kernel
theorem dX5_isFree_22 : decode cX5_isFree 22 = .ok (.ireturn, 1) := by decide +kernel
theorem dX5_isTaken_0 : decode cX5_isTaken 0 = .ok (.aload_n 0, 1) := by decide +kernel
theorem dX5_isTaken_1 : decode cX5_isTaken 1 = .ok (.iload_n 1, 1) := by decide +kernel
theorem dX5_isTaken_2 : decode cX5_isTaken 2 = .ok (.invokevirtual 125, 3) := by decide +kernel
theorem dX5_isTaken_5 : decode cX5_isTaken 5 = .ok (.ifCond .eq 21, 3) := by decide +kernel
theorem dX5_isTaken_8 : decode cX5_isTaken 8 = .ok (.aload_n 0, 1) := by decide +kernel
theorem dX5_isTaken_9 : decode cX5_isTaken 9 = .ok (.iload_n 1, 1) := by decide +kernel
theorem dX5_isTaken_10 : decode cX5_isTaken 10 = .ok (.iconst 2, 1) := by decide +kernel
theorem dX5_isTaken_11 : decode cX5_isTaken 11 = .ok (.invokevirtual 84, 3) := by decide +kernel
theorem dX5_isTaken_14 : decode cX5_isTaken 14 = .ok (.aload_n 0, 1) := by decide +kernel
theorem dX5_isTaken_15 : decode cX5_isTaken 15 = .ok (.iload_n 2, 1) := by decide +kernel
theorem dX5_isTaken_16 : decode cX5_isTaken 16 = .ok (.invokevirtual 109, 3) := by decide +kernel
theorem dX5_isTaken_19 : decode cX5_isTaken 19 = .ok (.if_icmp .lt 7, 3) := by decide +kernel
theorem dX5_isTaken_22 : decode cX5_isTaken 22 = .ok (.iconst 1, 1) := by decide +kernel
theorem dX5_isTaken_23 : decode cX5_isTaken 23 = .ok (.goto 4, 3) := by decide +kernel
theorem dX5_isTaken_26 : decode cX5_isTaken 26 = .ok (.iconst 0, 1) := by decide +kernel
theorem dX5_isTaken_27 : decode cX5_isTaken 27 = .ok (.ireturn, 1) := by decide +kernel
theorem dX5_takes_0 : decode cX5_takes 0 = .ok (.iload_n 1, 1) := by decide +kernel
theorem dX5_takes_1 : decode cX5_takes 1 = .ok (.invokestatic 67, 3) := by decide +kernel
theorem dX5_takes_4 : decode cX5_takes 4 = .ok (.ifCond .eq 11, 3) := by decide +kernel
theorem dX5_takes_7 : decode cX5_takes 7 = .ok (.aload_n 0, 1) := by decide +kernel
theorem dX5_takes_8 : decode cX5_takes 8 = .ok (.iload_n 2, 1) := by decide +kernel
theorem dX5_takes_9 : decode cX5_takes 9 = .ok (.invokevirtual 106, 3) := by decide +kernel
theorem dX5_takes_12 : decode cX5_takes 12 = .ok (.ifCond .ne 10, 3) := by decide +kernel
theorem dX5_takes_15 : decode cX5_takes 15 = .ok (.aload_n 0, 1) := by decide +kernel
theorem dX5_takes_16 : decode cX5_takes 16 = .ok (.ldc 45, 2) := by decide +kernel
theorem dX5_takes_18 : decode cX5_takes 18 = .ok (.invokevirtual 74, 3) := by decide +kernel
theorem dX5_takes_21 : decode cX5_takes 21 = .ok (.ireturn, 1) := by decide +kernel
theorem dX5_takes_22 : decode cX5_takes 22 = .ok (.aload_n 0, 1) := by decide +kernel
theorem dX5_takes_23 : decode cX5_takes 23 = .ok (.iload_n 1, 1) := by decide +kernel
theorem dX5_takes_24 : decode cX5_takes 24 = .ok (.iload_n 2, 1) := by decide +kernel
theorem dX5_takes_25 : decode cX5_takes 25 = .ok (.invokevirtual 128, 3) := by decide +kernel
theorem dX5_takes_28 : decode cX5_takes 28 = .ok (.ifCond .eq 7, 3) := by decide +kernel
theorem dX5_takes_31 : decode cX5_takes 31 = .ok (.iconst 1, 1) := by decide +kernel
theorem dX5_takes_32 : decode cX5_takes 32 = .ok (.goto 4, 3) := by decide +kernel
theorem dX5_takes_35 : decode cX5_takes 35 = .ok (.iconst 0, 1) := by decide +kernel
theorem dX5_takes_36 : decode cX5_takes 36 = .ok (.ireturn, 1) := by decide +kernel
theorem dX5_isTrue_0 : decode cX5_isTrue 0 = .ok (.aload_n 0, 1) := by decide +kernel
theorem dX5_isTrue_1 : decode cX5_isTrue 1 = .ok (.getfield 7, 3) := by decide +kernel
theorem dX5_isTrue_4 : decode cX5_isTrue 4 = .ok (.iconst 2, 1) := by decide +kernel
theorem dX5_isTrue_5 : decode cX5_isTrue 5 = .ok (.iaload, 1) := by decide +kernel
theorem dX5_isTrue_6 : decode cX5_isTrue 6 = .ok (.iload_n 1, 1) := by decide +kernel
theorem dX5_isTrue_7 : decode cX5_isTrue 7 = .ok (.ishr, 1) := by decide +kernel
theorem dX5_isTrue_8 : decode cX5_isTrue 8 = .ok (.iconst 1, 1) := by decide +kernel
theorem dX5_isTrue_9 : decode cX5_isTrue 9 = .ok (.iand, 1) := by decide +kernel
theorem dX5_isTrue_10 : decode cX5_isTrue 10 = .ok (.iconst 1, 1) := by decide +kernel
theorem dX5_isTrue_11 : decode cX5_isTrue 11 = .ok (.if_icmp .ne 7, 3) := by decide +kernel
theorem dX5_isTrue_14 : decode cX5_isTrue 14 = .ok (.iconst 1, 1) := by decide +kernel
theorem dX5_isTrue_15 : decode cX5_isTrue 15 = .ok (.goto 4, 3) := by decide +kernel
theorem dX5_isTrue_18 : decode cX5_isTrue 18 = .ok (.iconst 0, 1) := by decide +kernel
theorem dX5_isTrue_19 : decode cX5_isTrue 19 = .ok (.ireturn, 1) := by decide +kernel
theorem dX5_hostOf_0 : decode cX5_hostOf 0 = .ok (.iconst (-1), 1) := by decide +kernel
theorem dX5_hostOf_1 : decode cX5_hostOf 1 = .ok (.istore_n 2, 1) := by decide +kernel
theorem dX5_hostOf_2 : decode cX5_hostOf 2 = .ok (.iconst 0, 1) := by decide +kernel
theorem dX5_hostOf_3 : decode cX5_hostOf 3 = .ok (.istore_n 3, 1) := by decide +kernel
theorem dX5_hostOf_4 : decode cX5_hostOf 4 = .ok (.iload_n 3, 1) := by decide +kernel
theorem dX5_hostOf_5 : decode cX5_hostOf 5 = .ok (.bipush 8, 2) := by decide +kernel
theorem dX5_hostOf_7 : decode cX5_hostOf 7 = .ok (.if_icmp .ge 44, 3) := by decide +kernel
theorem dX5_hostOf_10 : decode cX5_hostOf 10 = .ok (.aload_n 0, 1) := by decide +kernel
theorem dX5_hostOf_11 : decode cX5_hostOf 11 = .ok (.iload_n 3, 1) := by decide +kernel
theorem dX5_hostOf_12 : decode cX5_hostOf 12 = .ok (.iload_n 1, 1) := by decide +kernel
theorem dX5_hostOf_13 : decode cX5_hostOf 13 = .ok (.invokevirtual 128, 3) := by decide +kernel
theorem dX5_hostOf_16 : decode cX5_hostOf 16 = .ok (.ifCond .eq 27, 3) := by decide +kernel
theorem dX5_hostOf_19 : decode cX5_hostOf 19 = .ok (.iload_n 2, 1) := by decide +kernel
theorem dX5_hostOf_20 : decode cX5_hostOf 20 = .ok (.iconst (-1), 1) := by decide +kernel
theorem dX5_hostOf_21 : decode cX5_hostOf 21 = .ok (.if_icmp .eq 18, 3) := by decide +kernel
theorem dX5_hostOf_24 : decode cX5_hostOf 24 = .ok (.aload_n 0, 1) := by decide +kernel
theorem dX5_hostOf_25 : decode cX5_hostOf 25 = .ok (.iload_n 3, 1) := by decide +kernel
theorem dX5_hostOf_26 : decode cX5_hostOf 26 = .ok (.iconst 2, 1) := by decide +kernel
theorem dX5_hostOf_27 : decode cX5_hostOf 27 = .ok (.invokevirtual 84, 3) := by decide +kernel
theorem dX5_hostOf_30 : decode cX5_hostOf 30 = .ok (.aload_n 0, 1) := by decide +kernel
theorem dX5_hostOf_31 : decode cX5_hostOf 31 = .ok (.iload_n 2, 1) := by decide +kernel
theorem dX5_hostOf_32 : decode cX5_hostOf 32 = .ok (.iconst 2, 1) := by decide +kernel
theorem dX5_hostOf_33 : decode cX5_hostOf 33 = .ok (.invokevirtual 84, 3) := by decide +kernel
theorem dX5_hostOf_36 : decode cX5_hostOf 36 = .ok (.if_icmp .le 7, 3) := by decide +kernel
theorem dX5_hostOf_39 : decode cX5_hostOf 39 = .ok (.iload_n 3, 1) := by decide +kernel
theorem dX5_hostOf_40 : decode cX5_hostOf 40 = .ok (.goto 4, 3) := by decide +kernel
theorem dX5_hostOf_43 : decode cX5_hostOf 43 = .ok (.iload_n 2, 1) := by decide +kernel
theorem dX5_hostOf_44 : decode cX5_hostOf 44 = .ok (.istore_n 2, 1) := by decide +kernel
theorem dX5_hostOf_45 : decode cX5_hostOf 45 = .ok (.iinc 3 1, 3) := by decide +kernel
theorem dX5_hostOf_48 : decode cX5_hostOf 48 = .ok (.goto (-44), 3) := by decide +kernel
theorem dX5_hostOf_51 : decode cX5_hostOf 51 = .ok (.iload_n 2, 1) := by decide +kernel
theorem dX5_hostOf_52 : decode cX5_hostOf 52 = .ok (.ireturn, 1) := by decide +kernel
theorem dX5_comeIn_0 : decode cX5_comeIn 0 = .ok (.aload_n 0, 1) := by decide +kernel
theorem dX5_comeIn_1 : decode cX5_comeIn 1 = .ok (.iload_n 1, 1) := by decide +kernel
theorem dX5_comeIn_2 : decode cX5_comeIn 2 = .ok (.invokevirtual 106, 3) := by decide +kernel
theorem dX5_comeIn_5 : decode cX5_comeIn 5 = .ok (.ifCond .ne 10, 3) := by decide +kernel
theorem dX5_comeIn_8 : decode cX5_comeIn 8 = .ok (.aload_n 0, 1) := by decide +kernel
theorem dX5_comeIn_9 : decode cX5_comeIn 9 = .ok (.ldc 45, 2) := by decide +kernel
theorem dX5_comeIn_11 : decode cX5_comeIn 11 = .ok (.invokevirtual 74, 3) := by decide +kernel
theorem dX5_comeIn_14 : decode cX5_comeIn 14 = .ok (.ireturn, 1) := by decide +kernel
theorem dX5_comeIn_15 : decode cX5_comeIn 15 = .ok (.aload_n 0, 1) := by decide +kernel
theorem dX5_comeIn_16 : decode cX5_comeIn 16 = .ok (.iload_n 1, 1) := by decide +kernel
theorem dX5_comeIn_17 : decode cX5_comeIn 17 = .ok (.iconst 4, 1) := by decide +kernel
theorem dX5_comeIn_18 : decode cX5_comeIn 18 = .ok (.invokevirtual 78, 3) := by decide +kernel
theorem dX5_comeIn_21 : decode cX5_comeIn 21 = .ok (.iconst (-1), 1) := by decide +kernel
theorem dX5_comeIn_22 : decode cX5_comeIn 22 = .ok (.if_icmp .ne 16, 3) := by decide +kernel
theorem dX5_comeIn_25 : decode cX5_comeIn 25 = .ok (.aload_n 0, 1) := by decide +kernel
theorem dX5_comeIn_26 : decode cX5_comeIn 26 = .ok (.aload_n 0, 1) := by decide +kernel
theorem dX5_comeIn_27 : decode cX5_comeIn 27 = .ok (.iload_n 1, 1) := by decide +kernel
theorem dX5_comeIn_28 : decode cX5_comeIn 28 = .ok (.iconst 1, 1) := by decide +kernel
theorem dX5_comeIn_29 : decode cX5_comeIn 29 = .ok (.invokevirtual 78, 3) := by decide +kernel
theorem dX5_comeIn_32 : decode cX5_comeIn 32 = .ok (.invokevirtual 131, 3) := by decide +kernel
theorem dX5_comeIn_35 : decode cX5_comeIn 35 = .ok (.ifCond .eq 10, 3) := by decide +kernel
theorem dX5_comeIn_38 : decode cX5_comeIn 38 = .ok (.aload_n 0, 1) := by decide +kernel
theorem dX5_comeIn_39 : decode cX5_comeIn 39 = .ok (.ldc 134, 2) := by decide +kernel
theorem dX5_comeIn_41 : decode cX5_comeIn 41 = .ok (.invokevirtual 74, 3) := by decide +kernel
theorem dX5_comeIn_44 : decode cX5_comeIn 44 = .ok (.ireturn, 1) := by decide +kernel
theorem dX5_comeIn_45 : decode cX5_comeIn 45 = .ok (.aload_n 0, 1) := by decide +kernel
theorem dX5_comeIn_46 : decode cX5_comeIn 46 = .ok (.getfield 7, 3) := by decide +kernel
theorem dX5_comeIn_49 : decode cX5_comeIn 49 = .ok (.iload_n 1, 1) := by decide +kernel
theorem dX5_comeIn_50 : decode cX5_comeIn 50 = .ok (.iconst 4, 1) := by decide +kernel
theorem dX5_comeIn_51 : decode cX5_comeIn 51 = .ok (.invokestatic 56, 3) := by decide +kernel
theorem dX5_comeIn_54 : decode cX5_comeIn 54 = .ok (.aload_n 0, 1) := by decide +kernel
theorem dX5_comeIn_55 : decode cX5_comeIn 55 = .ok (.iload_n 1, 1) := by decide +kernel
theorem dX5_comeIn_56 : decode cX5_comeIn 56 = .ok (.invokevirtual 135, 3) := by decide +kernel
theorem dX5_comeIn_59 : decode cX5_comeIn 59 = .ok (.iastore, 1) := by decide +kernel
theorem dX5_comeIn_60 : decode cX5_comeIn 60 = .ok (.aload_n 0, 1) := by decide +kernel
theorem dX5_comeIn_61 : decode cX5_comeIn 61 = .ok (.iload_n 1, 1) := by decide +kernel
theorem dX5_comeIn_62 : decode cX5_comeIn 62 = .ok (.iconst 4, 1) := by decide +kernel
theorem dX5_comeIn_63 : decode cX5_comeIn 63 = .ok (.invokevirtual 78, 3) := by decide +kernel
theorem dX5_comeIn_66 : decode cX5_comeIn 66 = .ok (.ireturn, 1) := by decide +kernel
theorem dX5_heldTo_0 : decode cX5_heldTo 0 = .ok (.iload_n 0, 1) := by decide +kernel
theorem dX5_heldTo_1 : decode cX5_heldTo 1 = .ok (.iload_n 1, 1) := by decide +kernel
theorem dX5_heldTo_2 : decode cX5_heldTo 2 = .ok (.if_icmp .le 7, 3) := by decide +kernel
theorem dX5_heldTo_5 : decode cX5_heldTo 5 = .ok (.iload_n 1, 1) := by decide +kernel
theorem dX5_heldTo_6 : decode cX5_heldTo 6 = .ok (.goto 4, 3) := by decide +kernel
theorem dX5_heldTo_9 : decode cX5_heldTo 9 = .ok (.iload_n 0, 1) := by decide +kernel
theorem dX5_heldTo_10 : decode cX5_heldTo 10 = .ok (.ireturn, 1) := by decide +kernel
theorem dX5_isImproved_0 : decode cX5_isImproved 0 = .ok (.aload_n 0, 1) := by decide +kernel
theorem dX5_isImproved_1 : decode cX5_isImproved 1 = .ok (.getfield 7, 3) := by decide +kernel
theorem dX5_isImproved_4 : decode cX5_isImproved 4 = .ok (.iload_n 1, 1) := by decide +kernel
theorem dX5_isImproved_5 : decode cX5_isImproved 5 = .ok (.iconst 2, 1) := by decide +kernel
theorem dX5_isImproved_6 : decode cX5_isImproved 6 = .ok (.invokestatic 56, 3) := by decide +kernel
theorem dX5_isImproved_9 : decode cX5_isImproved 9 = .ok (.aload_n 0, 1) := by decide +kernel
theorem dX5_isImproved_10 : decode cX5_isImproved 10 = .ok (.iload_n 1, 1) := by decide +kernel
theorem dX5_isImproved_11 : decode cX5_isImproved 11 = .ok (.iconst 2, 1) := by decide +kernel
theorem dX5_isImproved_12 : decode cX5_isImproved 12 = .ok (.invokevirtual 78, 3) := by decide +kernel
theorem dX5_isImproved_15 : decode cX5_isImproved 15 = .ok (.iload_n 2, 1) := by decide +kernel
theorem dX5_isImproved_16 : decode cX5_isImproved 16 = .ok (.iadd, 1) := by decide +kernel
theorem dX5_isImproved_17 : decode cX5_isImproved 17 = .ok (.bipush 99, 2) := by decide +kernel
theorem dX5_isImproved_19 : decode cX5_isImproved 19 = .ok (.invokestatic 138, 3) := by decide +kernel
theorem dX5_isImproved_22 : decode cX5_isImproved 22 = .ok (.iastore, 1) := by decide +kernel
theorem dX5_isImproved_23 : decode cX5_isImproved 23 = .ok (.aload_n 0, 1) := by decide +kernel
theorem dX5_isImproved_24 : decode cX5_isImproved 24 = .ok (.iload_n 1, 1) := by decide +kernel
theorem dX5_isImproved_25 : decode cX5_isImproved 25 = .ok (.iconst 4, 1) := by decide +kernel
theorem dX5_isImproved_26 : decode cX5_isImproved 26 = .ok (.invokevirtual 78, 3) := by decide +kernel
theorem dX5_isImproved_29 : decode cX5_isImproved 29 = .ok (.istore_n 3, 1) := by decide +kernel
theorem dX5_isImproved_30 : decode cX5_isImproved 30 = .ok (.iconst 1, 1) := by decide +kernel
theorem dX5_isImproved_31 : decode cX5_isImproved 31 = .ok (.istore 4, 2) := by decide +kernel
theorem dX5_isImproved_33 : decode cX5_isImproved 33 = .ok (.iload 4, 2) := by decide +kernel
theorem dX5_isImproved_35 : decode cX5_isImproved 35 = .ok (.bipush 8, 2) := by decide +kernel
theorem dX5_isImproved_37 : decode cX5_isImproved 37 = .ok (.if_icmp .ge 41, 3) := by decide +kernel
theorem dX5_isImproved_40 : decode cX5_isImproved 40 = .ok (.iload_n 3, 1) := by decide +kernel
theorem dX5_isImproved_41 : decode cX5_isImproved 41 = .ok (.iload 4, 2) := by decide +kernel
theorem dX5_isImproved_43 : decode cX5_isImproved 43 = .ok (.iadd, 1) := by decide +kernel
theorem dX5_isImproved_44 : decode cX5_isImproved 44 = .ok (.bipush 8, 2) := by decide +kernel
theorem dX5_isImproved_46 : decode cX5_isImproved 46 = .ok (.irem, 1) := by decide +kernel
theorem dX5_isImproved_47 : decode cX5_isImproved 47 = .ok (.istore 5, 2) := by decide +kernel
theorem dX5_isImproved_49 : decode cX5_isImproved 49 = .ok (.aload_n 0, 1) := by decide +kernel
theorem dX5_isImproved_50 : decode cX5_isImproved 50 = .ok (.iload 5, 2) := by decide +kernel
theorem dX5_isImproved_52 : decode cX5_isImproved 52 = .ok (.iload_n 1, 1) := by decide +kernel
theorem dX5_isImproved_53 : decode cX5_isImproved 53 = .ok (.invokevirtual 128, 3) := by decide +kernel
theorem dX5_isImproved_56 : decode cX5_isImproved 56 = .ok (.ifCond .eq 16, 3) := by decide +kernel
theorem dX5_isImproved_59 : decode cX5_isImproved 59 = .ok (.aload_n 0, 1) := by decide +kernel
theorem dX5_isImproved_60 : decode cX5_isImproved 60 = .ok (.getfield 7, 3) := by decide +kernel
theorem dX5_isImproved_63 : decode cX5_isImproved 63 = .ok (.iload_n 1, 1) := by decide +kernel
theorem dX5_isImproved_64 : decode cX5_isImproved 64 = .ok (.iconst 4, 1) := by decide +kernel
theorem dX5_isImproved_65 : decode cX5_isImproved 65 = .ok (.invokestatic 56, 3) := by decide +kernel
theorem dX5_isImproved_68 : decode cX5_isImproved 68 = .ok (.iload 5, 2) := by decide +kernel
theorem dX5_isImproved_70 : decode cX5_isImproved 70 = .ok (.iastore, 1) := by decide +kernel
theorem dX5_isImproved_71 : decode cX5_isImproved 71 = .ok (.return_, 1) := by decide +kernel
theorem dX5_isImproved_72 : decode cX5_isImproved 72 = .ok (.iinc 4 1, 3) := by decide +kernel
theorem dX5_isImproved_75 : decode cX5_isImproved 75 = .ok (.goto (-42), 3) := by decide +kernel
theorem dX5_isImproved_78 : decode cX5_isImproved 78 = .ok (.return_, 1) := by decide +kernel
theorem dX5_improve_0 : decode cX5_improve 0 = .ok (.aload_n 0, 1) := by decide +kernel
theorem dX5_improve_1 : decode cX5_improve 1 = .ok (.iload_n 1, 1) := by decide +kernel
theorem dX5_improve_2 : decode cX5_improve 2 = .ok (.invokevirtual 106, 3) := by decide +kernel
theorem dX5_improve_5 : decode cX5_improve 5 = .ok (.ifCond .eq 15, 3) := by decide +kernel
theorem dX5_improve_8 : decode cX5_improve 8 = .ok (.iload_n 2, 1) := by decide +kernel
theorem dX5_improve_9 : decode cX5_improve 9 = .ok (.i2l, 1) := by decide +kernel
theorem dX5_improve_10 : decode cX5_improve 10 = .ok (.lconst 1, 1) := by decide +kernel
theorem dX5_improve_11 : decode cX5_improve 11 = .ok (.ldc2_w 141, 3) := by decide +kernel
theorem dX5_improve_14 : decode cX5_improve 14 = .ok (.invokestatic 48, 3) := by decide +kernel
theorem dX5_improve_17 : decode cX5_improve 17 = .ok (.ifCond .ne 10, 3) := by decide +kernel
theorem dX5_improve_20 : decode cX5_improve 20 = .ok (.aload_n 0, 1) := by decide +kernel
theorem dX5_improve_21 : decode cX5_improve 21 = .ok (.ldc 45, 2) := by decide +kernel
theorem dX5_improve_23 : decode cX5_improve 23 = .ok (.invokevirtual 74, 3) := by decide +kernel
theorem dX5_improve_26 : decode cX5_improve 26 = .ok (.ireturn, 1) := by decide +kernel
theorem dX5_improve_27 : decode cX5_improve 27 = .ok (.aload_n 0, 1) := by decide +kernel
theorem dX5_improve_28 : decode cX5_improve 28 = .ok (.iload_n 1, 1) := by decide +kernel
theorem dX5_improve_29 : decode cX5_improve 29 = .ok (.iconst 4, 1) := by decide +kernel
theorem dX5_improve_30 : decode cX5_improve 30 = .ok (.invokevirtual 78, 3) := by decide +kernel
theorem dX5_improve_33 : decode cX5_improve 33 = .ok (.iconst (-1), 1) := by decide +kernel
theorem dX5_improve_34 : decode cX5_improve 34 = .ok (.if_icmp .ne 10, 3) := by decide +kernel
theorem dX5_improve_37 : decode cX5_improve 37 = .ok (.aload_n 0, 1) := by decide +kernel
theorem dX5_improve_38 : decode cX5_improve 38 = .ok (.ldc 134, 2) := by decide +kernel
theorem dX5_improve_40 : decode cX5_improve 40 = .ok (.invokevirtual 74, 3) := by decide +kernel
theorem dX5_improve_43 : decode cX5_improve 43 = .ok (.ireturn, 1) := by decide +kernel
theorem dX5_improve_44 : decode cX5_improve 44 = .ok (.aload_n 0, 1) := by decide +kernel
theorem dX5_improve_45 : decode cX5_improve 45 = .ok (.iload_n 1, 1) := by decide +kernel
theorem dX5_improve_46 : decode cX5_improve 46 = .ok (.iload_n 2, 1) := by decide +kernel
theorem dX5_improve_47 : decode cX5_improve 47 = .ok (.invokevirtual 143, 3) := by decide +kernel
theorem dX5_improve_50 : decode cX5_improve 50 = .ok (.aload_n 0, 1) := by decide +kernel
theorem dX5_improve_51 : decode cX5_improve 51 = .ok (.iload_n 1, 1) := by decide +kernel
theorem dX5_improve_52 : decode cX5_improve 52 = .ok (.iconst 4, 1) := by decide +kernel
theorem dX5_improve_53 : decode cX5_improve 53 = .ok (.invokevirtual 78, 3) := by decide +kernel
theorem dX5_improve_56 : decode cX5_improve 56 = .ok (.ireturn, 1) := by decide +kernel
theorem dX5_becomesTrue_0 : decode cX5_becomesTrue 0 = .ok (.iconst 0, 1) := by decide +kernel
theorem dX5_becomesTrue_1 : decode cX5_becomesTrue 1 = .ok (.istore_n 2, 1) := by decide +kernel
theorem dX5_becomesTrue_2 : decode cX5_becomesTrue 2 = .ok (.aload_n 0, 1) := by decide +kernel
theorem dX5_becomesTrue_3 : decode cX5_becomesTrue 3 = .ok (.getfield 7, 3) := by decide +kernel
theorem dX5_becomesTrue_6 : decode cX5_becomesTrue 6 = .ok (.iconst 2, 1) := by decide +kernel
theorem dX5_becomesTrue_7 : decode cX5_becomesTrue 7 = .ok (.dup2, 1) := by decide +kernel
theorem dX5_becomesTrue_8 : decode cX5_becomesTrue 8 = .ok (.iaload, 1) := by decide +kernel
theorem dX5_becomesTrue_9 : decode cX5_becomesTrue 9 = .ok (.iconst 1, 1) := by decide +kernel
theorem dX5_becomesTrue_10 : decode cX5_becomesTrue 10 = .ok (.iload_n 1, 1) := by decide +kernel
theorem dX5_becomesTrue_11 : decode cX5_becomesTrue 11 = .ok (.ishl, 1) := by decide +kernel
theorem dX5_becomesTrue_12 : decode cX5_becomesTrue 12 = .ok (.ior, 1) := by decide +kernel
theorem dX5_becomesTrue_13 : decode cX5_becomesTrue 13 = .ok (.iastore, 1) := by decide +kernel
theorem dX5_becomesTrue_14 : decode cX5_becomesTrue 14 = .ok (.iconst 0, 1) := by decide +kernel
theorem dX5_becomesTrue_15 : decode cX5_becomesTrue 15 = .ok (.istore_n 3, 1) := by decide +kernel
theorem dX5_becomesTrue_16 : decode cX5_becomesTrue 16 = .ok (.iload_n 3, 1) := by decide +kernel
theorem dX5_becomesTrue_17 : decode cX5_becomesTrue 17 = .ok (.aload_n 0, 1) := by decide +kernel
theorem dX5_becomesTrue_18 : decode cX5_becomesTrue 18 = .ok (.getfield 7, 3) := by decide +kernel
theorem dX5_becomesTrue_21 : decode cX5_becomesTrue 21 = .ok (.iconst 0, 1) := by decide +kernel
theorem dX5_becomesTrue_22 : decode cX5_becomesTrue 22 = .ok (.iaload, 1) := by decide +kernel
theorem dX5_becomesTrue_23 : decode cX5_becomesTrue 23 = .ok (.if_icmp .ge 43, 3) := by decide +kernel
theorem dX5_becomesTrue_26 : decode cX5_becomesTrue 26 = .ok (.aload_n 0, 1) := by decide +kernel
theorem dX5_becomesTrue_27 : decode cX5_becomesTrue 27 = .ok (.iload_n 3, 1) := by decide +kernel
theorem dX5_becomesTrue_28 : decode cX5_becomesTrue 28 = .ok (.iconst 1, 1) := by decide +kernel
theorem dX5_becomesTrue_29 : decode cX5_becomesTrue 29 = .ok (.invokevirtual 78, 3) := by decide +kernel
theorem dX5_becomesTrue_32 : decode cX5_becomesTrue 32 = .ok (.iload_n 1, 1) := by decide +kernel
theorem dX5_becomesTrue_33 : decode cX5_becomesTrue 33 = .ok (.if_icmp .ne 27, 3) := by decide +kernel
theorem dX5_becomesTrue_36 : decode cX5_becomesTrue 36 = .ok (.aload_n 0, 1) := by decide +kernel
theorem dX5_becomesTrue_37 : decode cX5_becomesTrue 37 = .ok (.iload_n 3, 1) := by decide +kernel
theorem dX5_becomesTrue_38 : decode cX5_becomesTrue 38 = .ok (.iconst 4, 1) := by decide +kernel
theorem dX5_becomesTrue_39 : decode cX5_becomesTrue 39 = .ok (.invokevirtual 78, 3) := by decide +kernel
theorem dX5_becomesTrue_42 : decode cX5_becomesTrue 42 = .ok (.iconst (-1), 1) := by decide +kernel
theorem dX5_becomesTrue_43 : decode cX5_becomesTrue 43 = .ok (.if_icmp .eq 17, 3) := by decide +kernel
theorem dX5_becomesTrue_46 : decode cX5_becomesTrue 46 = .ok (.aload_n 0, 1) := by decide +kernel
theorem dX5_becomesTrue_47 : decode cX5_becomesTrue 47 = .ok (.getfield 7, 3) := by decide +kernel
theorem dX5_becomesTrue_50 : decode cX5_becomesTrue 50 = .ok (.iload_n 3, 1) := by decide +kernel
theorem dX5_becomesTrue_51 : decode cX5_becomesTrue 51 = .ok (.iconst 4, 1) := by decide +kernel
theorem dX5_becomesTrue_52 : decode cX5_becomesTrue 52 = .ok (.invokestatic 56, 3) := by decide +kernel
theorem dX5_becomesTrue_55 : decode cX5_becomesTrue 55 = .ok (.iconst (-1), 1) := by decide +kernel
theorem dX5_becomesTrue_56 : decode cX5_becomesTrue 56 = .ok (.iastore, 1) := by decide +kernel
theorem dX5_becomesTrue_57 : decode cX5_becomesTrue 57 = .ok (.iinc 2 1, 3) := by decide +kernel
theorem dX5_becomesTrue_60 : decode cX5_becomesTrue 60 = .ok (.iinc 3 1, 3) := by decide +kernel
theorem dX5_becomesTrue_63 : decode cX5_becomesTrue 63 = .ok (.goto (-47), 3) := by decide +kernel
theorem dX5_becomesTrue_66 : decode cX5_becomesTrue 66 = .ok (.iload_n 2, 1) := by decide +kernel
theorem dX5_becomesTrue_67 : decode cX5_becomesTrue 67 = .ok (.ireturn, 1) := by decide +kernel
theorem dX5_comesTrue_0 : decode cX5_comesTrue 0 = .ok (.iload_n 1, 1) := by decide +kernel
theorem dX5_comesTrue_1 : decode cX5_comesTrue 1 = .ok (.invokestatic 99, 3) := by decide +kernel
theorem dX5_comesTrue_4 : decode cX5_comesTrue 4 = .ok (.ifCond .eq 11, 3) := by decide +kernel
theorem dX5_comesTrue_7 : decode cX5_comesTrue 7 = .ok (.aload_n 0, 1) := by decide +kernel
theorem dX5_comesTrue_8 : decode cX5_comesTrue 8 = .ok (.iload_n 1, 1) := by decide +kernel
theorem dX5_comesTrue_9 : decode cX5_comesTrue 9 = .ok (.invokevirtual 147, 3) := by decide +kernel
theorem dX5_comesTrue_12 : decode cX5_comesTrue 12 = .ok (.goto 9, 3) := by decide +kernel
theorem dX5_comesTrue_15 : decode cX5_comesTrue 15 = .ok (.aload_n 0, 1) := by decide +kernel
theorem dX5_comesTrue_16 : decode cX5_comesTrue 16 = .ok (.ldc 45, 2) := by decide +kernel
theorem dX5_comesTrue_18 : decode cX5_comesTrue 18 = .ok (.invokevirtual 74, 3) := by decide +kernel
theorem dX5_comesTrue_21 : decode cX5_comesTrue 21 = .ok (.ireturn, 1) := by decide +kernel
theorem dX5_forget_0 : decode cX5_forget 0 = .ok (.iload_n 1, 1) := by decide +kernel
theorem dX5_forget_1 : decode cX5_forget 1 = .ok (.invokestatic 99, 3) := by decide +kernel
theorem dX5_forget_4 : decode cX5_forget 4 = .ok (.ifCond .ne 10, 3) := by decide +kernel
theorem dX5_forget_7 : decode cX5_forget 7 = .ok (.aload_n 0, 1) := by decide +kernel
theorem dX5_forget_8 : decode cX5_forget 8 = .ok (.ldc 45, 2) := by decide +kernel
theorem dX5_forget_10 : decode cX5_forget 10 = .ok (.invokevirtual 74, 3) := by decide +kernel
theorem dX5_forget_13 : decode cX5_forget 13 = .ok (.ireturn, 1) := by decide +kernel
theorem dX5_forget_14 : decode cX5_forget 14 = .ok (.aload_n 0, 1) := by decide +kernel
theorem dX5_forget_15 : decode cX5_forget 15 = .ok (.iload_n 1, 1) := by decide +kernel
theorem dX5_forget_16 : decode cX5_forget 16 = .ok (.invokevirtual 131, 3) := by decide +kernel
theorem dX5_forget_19 : decode cX5_forget 19 = .ok (.ifCond .eq 7, 3) := by decide +kernel
theorem dX5_forget_22 : decode cX5_forget 22 = .ok (.iconst 1, 1) := by decide +kernel
theorem dX5_forget_23 : decode cX5_forget 23 = .ok (.goto 4, 3) := by decide +kernel
theorem dX5_forget_26 : decode cX5_forget 26 = .ok (.iconst 0, 1) := by decide +kernel
theorem dX5_forget_27 : decode cX5_forget 27 = .ok (.istore_n 2, 1) := by decide +kernel
theorem dX5_forget_28 : decode cX5_forget 28 = .ok (.aload_n 0, 1) := by decide +kernel
theorem dX5_forget_29 : decode cX5_forget 29 = .ok (.getfield 7, 3) := by decide +kernel
theorem dX5_forget_32 : decode cX5_forget 32 = .ok (.iconst 2, 1) := by decide +kernel
theorem dX5_forget_33 : decode cX5_forget 33 = .ok (.dup2, 1) := by decide +kernel
theorem dX5_forget_34 : decode cX5_forget 34 = .ok (.iaload, 1) := by decide +kernel
theorem dX5_forget_35 : decode cX5_forget 35 = .ok (.iconst 1, 1) := by decide +kernel
theorem dX5_forget_36 : decode cX5_forget 36 = .ok (.iload_n 1, 1) := by decide +kernel
theorem dX5_forget_37 : decode cX5_forget 37 = .ok (.ishl, 1) := by decide +kernel
theorem dX5_forget_38 : decode cX5_forget 38 = .ok (.iconst (-1), 1) := by decide +kernel
theorem dX5_forget_39 : decode cX5_forget 39 = .ok (.ixor, 1) := by decide +kernel
theorem dX5_forget_40 : decode cX5_forget 40 = .ok (.iand, 1) := by decide +kernel
theorem dX5_forget_41 : decode cX5_forget 41 = .ok (.iastore, 1) := by decide +kernel
theorem dX5_forget_42 : decode cX5_forget 42 = .ok (.iload_n 2, 1) := by decide +kernel
theorem dX5_forget_43 : decode cX5_forget 43 = .ok (.ireturn, 1) := by decide +kernel
theorem dX5_feeds_0 : decode cX5_feeds 0 = .ok (.aload_n 0, 1) := by decide +kernel
theorem dX5_feeds_1 : decode cX5_feeds 1 = .ok (.iload_n 1, 1) := by decide +kernel
theorem dX5_feeds_2 : decode cX5_feeds 2 = .ok (.iconst 4, 1) := by decide +kernel
theorem dX5_feeds_3 : decode cX5_feeds 3 = .ok (.invokevirtual 78, 3) := by decide +kernel
theorem dX5_feeds_6 : decode cX5_feeds 6 = .ok (.iconst 1, 1) := by decide +kernel
theorem dX5_feeds_7 : decode cX5_feeds 7 = .ok (.invokestatic 41, 3) := by decide +kernel
theorem dX5_feeds_10 : decode cX5_feeds 10 = .ok (.istore_n 2, 1) := by decide +kernel
theorem dX5_feeds_11 : decode cX5_feeds 11 = .ok (.aload_n 0, 1) := by decide +kernel
theorem dX5_feeds_12 : decode cX5_feeds 12 = .ok (.getfield 7, 3) := by decide +kernel
theorem dX5_feeds_15 : decode cX5_feeds 15 = .ok (.iload_n 2, 1) := by decide +kernel
theorem dX5_feeds_16 : decode cX5_feeds 16 = .ok (.iaload, 1) := by decide +kernel
theorem dX5_feeds_17 : decode cX5_feeds 17 = .ok (.aload_n 0, 1) := by decide +kernel
theorem dX5_feeds_18 : decode cX5_feeds 18 = .ok (.iload_n 1, 1) := by decide +kernel
theorem dX5_feeds_19 : decode cX5_feeds 19 = .ok (.invokevirtual 81, 3) := by decide +kernel
theorem dX5_feeds_22 : decode cX5_feeds 22 = .ok (.if_icmp .ge 22, 3) := by decide +kernel
theorem dX5_feeds_25 : decode cX5_feeds 25 = .ok (.aload_n 0, 1) := by decide +kernel
theorem dX5_feeds_26 : decode cX5_feeds 26 = .ok (.getfield 7, 3) := by decide +kernel
theorem dX5_feeds_29 : decode cX5_feeds 29 = .ok (.iload_n 2, 1) := by decide +kernel
theorem dX5_feeds_30 : decode cX5_feeds 30 = .ok (.iconst 0, 1) := by decide +kernel
theorem dX5_feeds_31 : decode cX5_feeds 31 = .ok (.iastore, 1) := by decide +kernel
theorem dX5_feeds_32 : decode cX5_feeds 32 = .ok (.aload_n 0, 1) := by decide +kernel
theorem dX5_feeds_33 : decode cX5_feeds 33 = .ok (.getfield 7, 3) := by decide +kernel
theorem dX5_feeds_36 : decode cX5_feeds 36 = .ok (.iload_n 1, 1) := by decide +kernel
theorem dX5_feeds_37 : decode cX5_feeds 37 = .ok (.iconst 4, 1) := by decide +kernel
theorem dX5_feeds_38 : decode cX5_feeds 38 = .ok (.invokestatic 56, 3) := by decide +kernel
theorem dX5_feeds_41 : decode cX5_feeds 41 = .ok (.iconst (-1), 1) := by decide +kernel
theorem dX5_feeds_42 : decode cX5_feeds 42 = .ok (.iastore, 1) := by decide +kernel
theorem dX5_feeds_43 : decode cX5_feeds 43 = .ok (.return_, 1) := by decide +kernel
theorem dX5_feeds_44 : decode cX5_feeds 44 = .ok (.aload_n 0, 1) := by decide +kernel
theorem dX5_feeds_45 : decode cX5_feeds 45 = .ok (.getfield 7, 3) := by decide +kernel
theorem dX5_feeds_48 : decode cX5_feeds 48 = .ok (.iload_n 2, 1) := by decide +kernel
theorem dX5_feeds_49 : decode cX5_feeds 49 = .ok (.dup2, 1) := by decide +kernel
theorem dX5_feeds_50 : decode cX5_feeds 50 = .ok (.iaload, 1) := by decide +kernel
theorem dX5_feeds_51 : decode cX5_feeds 51 = .ok (.aload_n 0, 1) := by decide +kernel
theorem dX5_feeds_52 : decode cX5_feeds 52 = .ok (.iload_n 1, 1) := by decide +kernel
theorem dX5_feeds_53 : decode cX5_feeds 53 = .ok (.invokevirtual 81, 3) := by decide +kernel
theorem dX5_feeds_56 : decode cX5_feeds 56 = .ok (.isub, 1) := by decide +kernel
theorem dX5_feeds_57 : decode cX5_feeds 57 = .ok (.iastore, 1) := by decide +kernel
theorem dX5_feeds_58 : decode cX5_feeds 58 = .ok (.aload_n 0, 1) := by decide +kernel
theorem dX5_feeds_59 : decode cX5_feeds 59 = .ok (.getfield 7, 3) := by decide +kernel
theorem dX5_feeds_62 : decode cX5_feeds 62 = .ok (.iload_n 1, 1) := by decide +kernel
theorem dX5_feeds_63 : decode cX5_feeds 63 = .ok (.iconst 2, 1) := by decide +kernel
theorem dX5_feeds_64 : decode cX5_feeds 64 = .ok (.invokestatic 56, 3) := by decide +kernel
theorem dX5_feeds_67 : decode cX5_feeds 67 = .ok (.aload_n 0, 1) := by decide +kernel
theorem dX5_feeds_68 : decode cX5_feeds 68 = .ok (.iload_n 1, 1) := by decide +kernel
theorem dX5_feeds_69 : decode cX5_feeds 69 = .ok (.iconst 2, 1) := by decide +kernel
theorem dX5_feeds_70 : decode cX5_feeds 70 = .ok (.invokevirtual 78, 3) := by decide +kernel
theorem dX5_feeds_73 : decode cX5_feeds 73 = .ok (.aload_n 0, 1) := by decide +kernel
theorem dX5_feeds_74 : decode cX5_feeds 74 = .ok (.iload_n 1, 1) := by decide +kernel
theorem dX5_feeds_75 : decode cX5_feeds 75 = .ok (.invokevirtual 112, 3) := by decide +kernel
theorem dX5_feeds_78 : decode cX5_feeds 78 = .ok (.iadd, 1) := by decide +kernel
theorem dX5_feeds_79 : decode cX5_feeds 79 = .ok (.bipush 99, 2) := by decide +kernel
theorem dX5_feeds_81 : decode cX5_feeds 81 = .ok (.invokestatic 138, 3) := by decide +kernel
theorem dX5_feeds_84 : decode cX5_feeds 84 = .ok (.iastore, 1) := by decide +kernel
theorem dX5_feeds_85 : decode cX5_feeds 85 = .ok (.return_, 1) := by decide +kernel
theorem dX5_isOnRoad_0 : decode cX5_isOnRoad 0 = .ok (.iconst 0, 1) := by decide +kernel
theorem dX5_isOnRoad_1 : decode cX5_isOnRoad 1 = .ok (.istore_n 2, 1) := by decide +kernel
theorem dX5_isOnRoad_2 : decode cX5_isOnRoad 2 = .ok (.iconst 0, 1) := by decide +kernel
theorem dX5_isOnRoad_3 : decode cX5_isOnRoad 3 = .ok (.istore_n 3, 1) := by decide +kernel
theorem dX5_isOnRoad_4 : decode cX5_isOnRoad 4 = .ok (.iload_n 3, 1) := by decide +kernel
theorem dX5_isOnRoad_5 : decode cX5_isOnRoad 5 = .ok (.aload_n 0, 1) := by decide +kernel
theorem dX5_isOnRoad_6 : decode cX5_isOnRoad 6 = .ok (.getfield 7, 3) := by decide +kernel
theorem dX5_isOnRoad_9 : decode cX5_isOnRoad 9 = .ok (.iconst 0, 1) := by decide +kernel
theorem dX5_isOnRoad_10 : decode cX5_isOnRoad 10 = .ok (.iaload, 1) := by decide +kernel
theorem dX5_isOnRoad_11 : decode cX5_isOnRoad 11 = .ok (.if_icmp .ge 39, 3) := by decide +kernel
theorem dX5_isOnRoad_14 : decode cX5_isOnRoad 14 = .ok (.iload_n 2, 1) := by decide +kernel
theorem dX5_isOnRoad_15 : decode cX5_isOnRoad 15 = .ok (.ifCond .ne 23, 3) := by decide +kernel
theorem dX5_isOnRoad_18 : decode cX5_isOnRoad 18 = .ok (.aload_n 0, 1) := by decide +kernel
theorem dX5_isOnRoad_19 : decode cX5_isOnRoad 19 = .ok (.iload_n 3, 1) := by decide +kernel
theorem dX5_isOnRoad_20 : decode cX5_isOnRoad 20 = .ok (.iconst 1, 1) := by decide +kernel
theorem dX5_isOnRoad_21 : decode cX5_isOnRoad 21 = .ok (.invokevirtual 78, 3) := by decide +kernel
theorem dX5_isOnRoad_24 : decode cX5_isOnRoad 24 = .ok (.iload_n 1, 1) := by decide +kernel
theorem dX5_isOnRoad_25 : decode cX5_isOnRoad 25 = .ok (.if_icmp .ne 17, 3) := by decide +kernel
theorem dX5_isOnRoad_28 : decode cX5_isOnRoad 28 = .ok (.aload_n 0, 1) := by decide +kernel
theorem dX5_isOnRoad_29 : decode cX5_isOnRoad 29 = .ok (.iload_n 3, 1) := by decide +kernel
theorem dX5_isOnRoad_30 : decode cX5_isOnRoad 30 = .ok (.iconst 4, 1) := by decide +kernel
theorem dX5_isOnRoad_31 : decode cX5_isOnRoad 31 = .ok (.invokevirtual 78, 3) := by decide +kernel
theorem dX5_isOnRoad_34 : decode cX5_isOnRoad 34 = .ok (.iconst (-1), 1) := by decide +kernel
theorem dX5_isOnRoad_35 : decode cX5_isOnRoad 35 = .ok (.if_icmp .ne 7, 3) := by decide +kernel
theorem dX5_isOnRoad_38 : decode cX5_isOnRoad 38 = .ok (.iconst 1, 1) := by decide +kernel
theorem dX5_isOnRoad_39 : decode cX5_isOnRoad 39 = .ok (.goto 4, 3) := by decide +kernel
theorem dX5_isOnRoad_42 : decode cX5_isOnRoad 42 = .ok (.iconst 0, 1) := by decide +kernel
theorem dX5_isOnRoad_43 : decode cX5_isOnRoad 43 = .ok (.istore_n 2, 1) := by decide +kernel
theorem dX5_isOnRoad_44 : decode cX5_isOnRoad 44 = .ok (.iinc 3 1, 3) := by decide +kernel
theorem dX5_isOnRoad_47 : decode cX5_isOnRoad 47 = .ok (.goto (-43), 3) := by decide +kernel
theorem dX5_isOnRoad_50 : decode cX5_isOnRoad 50 = .ok (.iload_n 2, 1) := by decide +kernel
theorem dX5_isOnRoad_51 : decode cX5_isOnRoad 51 = .ok (.ireturn, 1) := by decide +kernel
theorem dX5_lodgersOf_0 : decode cX5_lodgersOf 0 = .ok (.iconst 0, 1) := by decide +kernel
theorem dX5_lodgersOf_1 : decode cX5_lodgersOf 1 = .ok (.istore_n 3, 1) := by decide +kernel
theorem dX5_lodgersOf_2 : decode cX5_lodgersOf 2 = .ok (.iconst 0, 1) := by decide +kernel
theorem dX5_lodgersOf_3 : decode cX5_lodgersOf 3 = .ok (.istore 4, 2) := by decide +kernel
theorem dX5_lodgersOf_5 : decode cX5_lodgersOf 5 = .ok (.iload 4, 2) := by decide +kernel
theorem dX5_lodgersOf_7 : decode cX5_lodgersOf 7 = .ok (.aload_n 0, 1) := by decide +kernel
theorem dX5_lodgersOf_8 : decode cX5_lodgersOf 8 = .ok (.getfield 7, 3) := by decide +kernel
theorem dX5_lodgersOf_11 : decode cX5_lodgersOf 11 = .ok (.iconst 0, 1) := by decide +kernel
theorem dX5_lodgersOf_12 : decode cX5_lodgersOf 12 = .ok (.iaload, 1) := by decide +kernel
theorem dX5_lodgersOf_13 : decode cX5_lodgersOf 13 = .ok (.if_icmp .ge 42, 3) := by decide +kernel
theorem dX5_lodgersOf_16 : decode cX5_lodgersOf 16 = .ok (.iload_n 3, 1) := by decide +kernel
theorem dX5_lodgersOf_17 : decode cX5_lodgersOf 17 = .ok (.aload_n 0, 1) := by decide +kernel
theorem dX5_lodgersOf_18 : decode cX5_lodgersOf 18 = .ok (.iload 4, 2) := by decide +kernel
theorem dX5_lodgersOf_20 : decode cX5_lodgersOf 20 = .ok (.iconst 4, 1) := by decide +kernel
theorem dX5_lodgersOf_21 : decode cX5_lodgersOf 21 = .ok (.invokevirtual 78, 3) := by decide +kernel
theorem dX5_lodgersOf_24 : decode cX5_lodgersOf 24 = .ok (.iload_n 1, 1) := by decide +kernel
theorem dX5_lodgersOf_25 : decode cX5_lodgersOf 25 = .ok (.if_icmp .ne 21, 3) := by decide +kernel
theorem dX5_lodgersOf_28 : decode cX5_lodgersOf 28 = .ok (.aload_n 0, 1) := by decide +kernel
theorem dX5_lodgersOf_29 : decode cX5_lodgersOf 29 = .ok (.iload 4, 2) := by decide +kernel
theorem dX5_lodgersOf_31 : decode cX5_lodgersOf 31 = .ok (.iconst 1, 1) := by decide +kernel
theorem dX5_lodgersOf_32 : decode cX5_lodgersOf 32 = .ok (.invokevirtual 78, 3) := by decide +kernel
theorem dX5_lodgersOf_35 : decode cX5_lodgersOf 35 = .ok (.iload_n 2, 1) := by decide +kernel
theorem dX5_lodgersOf_36 : decode cX5_lodgersOf 36 = .ok (.if_icmp .ne 10, 3) := by decide +kernel
theorem dX5_lodgersOf_39 : decode cX5_lodgersOf 39 = .ok (.iconst 1, 1) := by decide +kernel
theorem dX5_lodgersOf_40 : decode cX5_lodgersOf 40 = .ok (.iload 4, 2) := by decide +kernel
theorem dX5_lodgersOf_42 : decode cX5_lodgersOf 42 = .ok (.ishl, 1) := by decide +kernel
theorem dX5_lodgersOf_43 : decode cX5_lodgersOf 43 = .ok (.goto 4, 3) := by decide +kernel
theorem dX5_lodgersOf_46 : decode cX5_lodgersOf 46 = .ok (.iconst 0, 1) := by decide +kernel
theorem dX5_lodgersOf_47 : decode cX5_lodgersOf 47 = .ok (.ior, 1) := by decide +kernel
theorem dX5_lodgersOf_48 : decode cX5_lodgersOf 48 = .ok (.istore_n 3, 1) := by decide +kernel
theorem dX5_lodgersOf_49 : decode cX5_lodgersOf 49 = .ok (.iinc 4 1, 3) := by decide +kernel
theorem dX5_lodgersOf_52 : decode cX5_lodgersOf 52 = .ok (.goto (-47), 3) := by decide +kernel
theorem dX5_lodgersOf_55 : decode cX5_lodgersOf 55 = .ok (.iload_n 3, 1) := by decide +kernel
theorem dX5_lodgersOf_56 : decode cX5_lodgersOf 56 = .ok (.ireturn, 1) := by decide +kernel
theorem dX5_makesThird_0 : decode cX5_makesThird 0 = .ok (.iconst 0, 1) := by decide +kernel
theorem dX5_makesThird_1 : decode cX5_makesThird 1 = .ok (.istore_n 2, 1) := by decide +kernel
theorem dX5_makesThird_2 : decode cX5_makesThird 2 = .ok (.iload_n 2, 1) := by decide +kernel
theorem dX5_makesThird_3 : decode cX5_makesThird 3 = .ok (.bipush 16, 2) := by decide +kernel
theorem dX5_makesThird_5 : decode cX5_makesThird 5 = .ok (.if_icmp .ge 22, 3) := by decide +kernel
theorem dX5_makesThird_8 : decode cX5_makesThird 8 = .ok (.aload_n 0, 1) := by decide +kernel
theorem dX5_makesThird_9 : decode cX5_makesThird 9 = .ok (.iload_n 1, 1) := by decide +kernel
theorem dX5_makesThird_10 : decode cX5_makesThird 10 = .ok (.iload_n 2, 1) := by decide +kernel
theorem dX5_makesThird_11 : decode cX5_makesThird 11 = .ok (.invokevirtual 150, 3) := by decide +kernel
theorem dX5_makesThird_14 : decode cX5_makesThird 14 = .ok (.invokestatic 122, 3) := by decide +kernel
theorem dX5_makesThird_17 : decode cX5_makesThird 17 = .ok (.iconst 2, 1) := by decide +kernel
theorem dX5_makesThird_18 : decode cX5_makesThird 18 = .ok (.if_icmp .ge 9, 3) := by decide +kernel
theorem dX5_makesThird_21 : decode cX5_makesThird 21 = .ok (.iinc 2 1, 3) := by decide +kernel
theorem dX5_makesThird_24 : decode cX5_makesThird 24 = .ok (.goto (-22), 3) := by decide +kernel
theorem dX5_makesThird_27 : decode cX5_makesThird 27 = .ok (.iload_n 2, 1) := by decide +kernel
theorem dX5_makesThird_28 : decode cX5_makesThird 28 = .ok (.bipush 16, 2) := by decide +kernel
theorem dX5_makesThird_30 : decode cX5_makesThird 30 = .ok (.if_icmp .eq 22, 3) := by decide +kernel
theorem dX5_makesThird_33 : decode cX5_makesThird 33 = .ok (.aload_n 0, 1) := by decide +kernel
theorem dX5_makesThird_34 : decode cX5_makesThird 34 = .ok (.iload_n 2, 1) := by decide +kernel
theorem dX5_makesThird_35 : decode cX5_makesThird 35 = .ok (.invokevirtual 153, 3) := by decide +kernel
theorem dX5_makesThird_38 : decode cX5_makesThird 38 = .ok (.ifCond .ne 14, 3) := by decide +kernel
theorem dX5_makesThird_41 : decode cX5_makesThird 41 = .ok (.aload_n 0, 1) := by decide +kernel
theorem dX5_makesThird_42 : decode cX5_makesThird 42 = .ok (.getfield 7, 3) := by decide +kernel
theorem dX5_makesThird_45 : decode cX5_makesThird 45 = .ok (.iconst 0, 1) := by decide +kernel
theorem dX5_makesThird_46 : decode cX5_makesThird 46 = .ok (.iaload, 1) := by decide +kernel
theorem dX5_makesThird_47 : decode cX5_makesThird 47 = .ok (.bipush 10, 2) := by decide +kernel
theorem dX5_makesThird_49 : decode cX5_makesThird 49 = .ok (.if_icmp .ne 4, 3) := by decide +kernel
theorem dX5_makesThird_52 : decode cX5_makesThird 52 = .ok (.return_, 1) := by decide +kernel
theorem dX5_makesThird_53 : decode cX5_makesThird 53 = .ok (.aload_n 0, 1) := by decide +kernel
theorem dX5_makesThird_54 : decode cX5_makesThird 54 = .ok (.iload_n 1, 1) := by decide +kernel
theorem dX5_makesThird_55 : decode cX5_makesThird 55 = .ok (.iload_n 2, 1) := by decide +kernel
theorem dX5_makesThird_56 : decode cX5_makesThird 56 = .ok (.invokevirtual 150, 3) := by decide +kernel
theorem dX5_makesThird_59 : decode cX5_makesThird 59 = .ok (.istore_n 3, 1) := by decide +kernel
theorem dX5_makesThird_60 : decode cX5_makesThird 60 = .ok (.iconst 0, 1) := by decide +kernel
theorem dX5_makesThird_61 : decode cX5_makesThird 61 = .ok (.istore 4, 2) := by decide +kernel
theorem dX5_makesThird_63 : decode cX5_makesThird 63 = .ok (.iconst 0, 1) := by decide +kernel
theorem dX5_makesThird_64 : decode cX5_makesThird 64 = .ok (.istore 5, 2) := by decide +kernel
theorem dX5_makesThird_66 : decode cX5_makesThird 66 = .ok (.iconst 0, 1) := by decide +kernel
theorem dX5_makesThird_67 : decode cX5_makesThird 67 = .ok (.istore 6, 2) := by decide +kernel
theorem dX5_makesThird_69 : decode cX5_makesThird 69 = .ok (.iload 6, 2) := by decide +kernel
theorem dX5_makesThird_71 : decode cX5_makesThird 71 = .ok (.aload_n 0, 1) := by decide +kernel
theorem dX5_makesThird_72 : decode cX5_makesThird 72 = .ok (.getfield 7, 3) := by decide +kernel
theorem dX5_makesThird_75 : decode cX5_makesThird 75 = .ok (.iconst 0, 1) := by decide +kernel
theorem dX5_makesThird_76 : decode cX5_makesThird 76 = .ok (.iaload, 1) := by decide +kernel
theorem dX5_makesThird_77 : decode cX5_makesThird 77 = .ok (.if_icmp .ge 40, 3) := by decide +kernel
theorem dX5_makesThird_80 : decode cX5_makesThird 80 = .ok (.iload 5, 2) := by decide +kernel
theorem dX5_makesThird_82 : decode cX5_makesThird 82 = .ok (.iconst 2, 1) := by decide +kernel
theorem dX5_makesThird_83 : decode cX5_makesThird 83 = .ok (.if_icmp .ge 34, 3) := by decide +kernel
theorem dX5_makesThird_86 : decode cX5_makesThird 86 = .ok (.iload_n 3, 1) := by decide +kernel
theorem dX5_makesThird_87 : decode cX5_makesThird 87 = .ok (.iload 6, 2) := by decide +kernel
theorem dX5_makesThird_89 : decode cX5_makesThird 89 = .ok (.ishr, 1) := by decide +kernel
theorem dX5_makesThird_90 : decode cX5_makesThird 90 = .ok (.iconst 1, 1) := by decide +kernel
theorem dX5_makesThird_91 : decode cX5_makesThird 91 = .ok (.iand, 1) := by decide +kernel
theorem dX5_makesThird_92 : decode cX5_makesThird 92 = .ok (.iconst 1, 1) := by decide +kernel
theorem dX5_makesThird_93 : decode cX5_makesThird 93 = .ok (.if_icmp .ne 18, 3) := by decide +kernel
theorem dX5_makesThird_96 : decode cX5_makesThird 96 = .ok (.iload 4, 2) := by decide +kernel
theorem dX5_makesThird_98 : decode cX5_makesThird 98 = .ok (.aload_n 0, 1) := by decide +kernel
theorem dX5_makesThird_99 : decode cX5_makesThird 99 = .ok (.iload 6, 2) := by decide +kernel
theorem dX5_makesThird_101 : decode cX5_makesThird 101 = .ok (.iconst 2, 1) := by decide +kernel
theorem dX5_makesThird_102 : decode cX5_makesThird 102 = .ok (.invokevirtual 78, 3) := by decide +kernel
theorem dX5_makesThird_105 : decode cX5_makesThird 105 = .ok (.iadd, 1) := by decide +kernel
theorem dX5_makesThird_106 : decode cX5_makesThird 106 = .ok (.istore 4, 2) := by decide +kernel
theorem dX5_makesThird_108 : decode cX5_makesThird 108 = .ok (.iinc 5 1, 3) := by decide +kernel
theorem dX5_makesThird_111 : decode cX5_makesThird 111 = .ok (.iinc 6 1, 3) := by decide +kernel
theorem dX5_makesThird_114 : decode cX5_makesThird 114 = .ok (.goto (-45), 3) := by decide +kernel
theorem dX5_makesThird_117 : decode cX5_makesThird 117 = .ok (.aload_n 0, 1) := by decide +kernel
theorem dX5_makesThird_118 : decode cX5_makesThird 118 = .ok (.iconst 0, 1) := by decide +kernel
theorem dX5_makesThird_119 : decode cX5_makesThird 119 = .ok (.iload_n 2, 1) := by decide +kernel
theorem dX5_makesThird_120 : decode cX5_makesThird 120 = .ok (.invokevirtual 103, 3) := by decide +kernel
theorem dX5_makesThird_123 : decode cX5_makesThird 123 = .ok (.istore 6, 2) := by decide +kernel
theorem dX5_makesThird_125 : decode cX5_makesThird 125 = .ok (.aload_n 0, 1) := by decide +kernel
theorem dX5_makesThird_126 : decode cX5_makesThird 126 = .ok (.getfield 7, 3) := by decide +kernel
theorem dX5_makesThird_129 : decode cX5_makesThird 129 = .ok (.iload 6, 2) := by decide +kernel
theorem dX5_makesThird_131 : decode cX5_makesThird 131 = .ok (.iconst 2, 1) := by decide +kernel
theorem dX5_makesThird_132 : decode cX5_makesThird 132 = .ok (.invokestatic 56, 3) := by decide +kernel
theorem dX5_makesThird_135 : decode cX5_makesThird 135 = .ok (.iload 4, 2) := by decide +kernel
theorem dX5_makesThird_137 : decode cX5_makesThird 137 = .ok (.iconst 2, 1) := by decide +kernel
theorem dX5_makesThird_138 : decode cX5_makesThird 138 = .ok (.idiv, 1) := by decide +kernel
theorem dX5_makesThird_139 : decode cX5_makesThird 139 = .ok (.iastore, 1) := by decide +kernel
theorem dX5_makesThird_140 : decode cX5_makesThird 140 = .ok (.return_, 1) := by decide +kernel
theorem dX5_day_0 : decode cX5_day 0 = .ok (.iconst 0, 1) := by decide +kernel
theorem dX5_day_1 : decode cX5_day 1 = .ok (.istore_n 1, 1) := by decide +kernel
theorem dX5_day_2 : decode cX5_day 2 = .ok (.iload_n 1, 1) := by decide +kernel
theorem dX5_day_3 : decode cX5_day 3 = .ok (.aload_n 0, 1) := by decide +kernel
theorem dX5_day_4 : decode cX5_day 4 = .ok (.getfield 7, 3) := by decide +kernel
theorem dX5_day_7 : decode cX5_day 7 = .ok (.iconst 0, 1) := by decide +kernel
theorem dX5_day_8 : decode cX5_day 8 = .ok (.iaload, 1) := by decide +kernel
theorem dX5_day_9 : decode cX5_day 9 = .ok (.if_icmp .ge 24, 3) := by decide +kernel
theorem dX5_day_12 : decode cX5_day 12 = .ok (.aload_n 0, 1) := by decide +kernel
theorem dX5_day_13 : decode cX5_day 13 = .ok (.iload_n 1, 1) := by decide +kernel
theorem dX5_day_14 : decode cX5_day 14 = .ok (.iconst 4, 1) := by decide +kernel
theorem dX5_day_15 : decode cX5_day 15 = .ok (.invokevirtual 78, 3) := by decide +kernel
theorem dX5_day_18 : decode cX5_day 18 = .ok (.iconst (-1), 1) := by decide +kernel
theorem dX5_day_19 : decode cX5_day 19 = .ok (.if_icmp .eq 8, 3) := by decide +kernel
theorem dX5_day_22 : decode cX5_day 22 = .ok (.aload_n 0, 1) := by decide +kernel
theorem dX5_day_23 : decode cX5_day 23 = .ok (.iload_n 1, 1) := by decide +kernel
theorem dX5_day_24 : decode cX5_day 24 = .ok (.invokevirtual 156, 3) := by decide +kernel
theorem dX5_day_27 : decode cX5_day 27 = .ok (.iinc 1 1, 3) := by decide +kernel
theorem dX5_day_30 : decode cX5_day 30 = .ok (.goto (-28), 3) := by decide +kernel
theorem dX5_day_33 : decode cX5_day 33 = .ok (.iconst 0, 1) := by decide +kernel
theorem dX5_day_34 : decode cX5_day 34 = .ok (.istore_n 1, 1) := by decide +kernel
theorem dX5_day_35 : decode cX5_day 35 = .ok (.iload_n 1, 1) := by decide +kernel
theorem dX5_day_36 : decode cX5_day 36 = .ok (.aload_n 0, 1) := by decide +kernel
theorem dX5_day_37 : decode cX5_day 37 = .ok (.getfield 7, 3) := by decide +kernel
theorem dX5_day_40 : decode cX5_day 40 = .ok (.iconst 0, 1) := by decide +kernel
theorem dX5_day_41 : decode cX5_day 41 = .ok (.iaload, 1) := by decide +kernel
theorem dX5_day_42 : decode cX5_day 42 = .ok (.if_icmp .ge 33, 3) := by decide +kernel
theorem dX5_day_45 : decode cX5_day 45 = .ok (.aload_n 0, 1) := by decide +kernel
theorem dX5_day_46 : decode cX5_day 46 = .ok (.getfield 7, 3) := by decide +kernel
theorem dX5_day_49 : decode cX5_day 49 = .ok (.iload_n 1, 1) := by decide +kernel
theorem dX5_day_50 : decode cX5_day 50 = .ok (.iconst 3, 1) := by decide +kernel
theorem dX5_day_51 : decode cX5_day 51 = .ok (.invokestatic 56, 3) := by decide +kernel
theorem dX5_day_54 : decode cX5_day 54 = .ok (.aload_n 0, 1) := by decide +kernel
theorem dX5_day_55 : decode cX5_day 55 = .ok (.iload_n 1, 1) := by decide +kernel
theorem dX5_day_56 : decode cX5_day 56 = .ok (.iconst 3, 1) := by decide +kernel
theorem dX5_day_57 : decode cX5_day 57 = .ok (.invokevirtual 78, 3) := by decide +kernel
theorem dX5_day_60 : decode cX5_day 60 = .ok (.iconst 1, 1) := by decide +kernel
theorem dX5_day_61 : decode cX5_day 61 = .ok (.iadd, 1) := by decide +kernel
theorem dX5_day_62 : decode cX5_day 62 = .ok (.sipush 999, 3) := by decide +kernel
theorem dX5_day_65 : decode cX5_day 65 = .ok (.invokestatic 138, 3) := by decide +kernel
theorem dX5_day_68 : decode cX5_day 68 = .ok (.iastore, 1) := by decide +kernel
theorem dX5_day_69 : decode cX5_day 69 = .ok (.iinc 1 1, 3) := by decide +kernel
theorem dX5_day_72 : decode cX5_day 72 = .ok (.goto (-37), 3) := by decide +kernel
theorem dX5_day_75 : decode cX5_day 75 = .ok (.iconst 0, 1) := by decide +kernel
theorem dX5_day_76 : decode cX5_day 76 = .ok (.istore_n 1, 1) := by decide +kernel
theorem dX5_day_77 : decode cX5_day 77 = .ok (.iload_n 1, 1) := by decide +kernel
theorem dX5_day_78 : decode cX5_day 78 = .ok (.bipush 8, 2) := by decide +kernel
theorem dX5_day_80 : decode cX5_day 80 = .ok (.if_icmp .ge 14, 3) := by decide +kernel
theorem dX5_day_83 : decode cX5_day 83 = .ok (.aload_n 0, 1) := by decide +kernel
theorem dX5_day_84 : decode cX5_day 84 = .ok (.iload_n 1, 1) := by decide +kernel
theorem dX5_day_85 : decode cX5_day 85 = .ok (.invokevirtual 160, 3) := by decide +kernel
theorem dX5_day_88 : decode cX5_day 88 = .ok (.iinc 1 1, 3) := by decide +kernel
theorem dX5_day_91 : decode cX5_day 91 = .ok (.goto (-14), 3) := by decide +kernel
theorem dX5_day_94 : decode cX5_day 94 = .ok (.iconst 0, 1) := by decide +kernel
theorem dX5_day_95 : decode cX5_day 95 = .ok (.istore_n 1, 1) := by decide +kernel
theorem dX5_day_96 : decode cX5_day 96 = .ok (.iload_n 1, 1) := by decide +kernel
theorem dX5_day_97 : decode cX5_day 97 = .ok (.aload_n 0, 1) := by decide +kernel
theorem dX5_day_98 : decode cX5_day 98 = .ok (.getfield 7, 3) := by decide +kernel
theorem dX5_day_101 : decode cX5_day 101 = .ok (.iconst 0, 1) := by decide +kernel
theorem dX5_day_102 : decode cX5_day 102 = .ok (.iaload, 1) := by decide +kernel
theorem dX5_day_103 : decode cX5_day 103 = .ok (.if_icmp .ge 47, 3) := by decide +kernel
theorem dX5_day_106 : decode cX5_day 106 = .ok (.aload_n 0, 1) := by decide +kernel
theorem dX5_day_107 : decode cX5_day 107 = .ok (.iload_n 1, 1) := by decide +kernel
theorem dX5_day_108 : decode cX5_day 108 = .ok (.iconst 4, 1) := by decide +kernel
theorem dX5_day_109 : decode cX5_day 109 = .ok (.invokevirtual 78, 3) := by decide +kernel
theorem dX5_day_112 : decode cX5_day 112 = .ok (.iconst (-1), 1) := by decide +kernel
theorem dX5_day_113 : decode cX5_day 113 = .ok (.if_icmp .ne 31, 3) := by decide +kernel
theorem dX5_day_116 : decode cX5_day 116 = .ok (.aload_n 0, 1) := by decide +kernel
theorem dX5_day_117 : decode cX5_day 117 = .ok (.aload_n 0, 1) := by decide +kernel
theorem dX5_day_118 : decode cX5_day 118 = .ok (.iload_n 1, 1) := by decide +kernel
theorem dX5_day_119 : decode cX5_day 119 = .ok (.iconst 1, 1) := by decide +kernel
theorem dX5_day_120 : decode cX5_day 120 = .ok (.invokevirtual 78, 3) := by decide +kernel
theorem dX5_day_123 : decode cX5_day 123 = .ok (.invokevirtual 131, 3) := by decide +kernel
theorem dX5_day_126 : decode cX5_day 126 = .ok (.ifCond .ne 18, 3) := by decide +kernel
theorem dX5_day_129 : decode cX5_day 129 = .ok (.aload_n 0, 1) := by decide +kernel
theorem dX5_day_130 : decode cX5_day 130 = .ok (.getfield 7, 3) := by decide +kernel
theorem dX5_day_133 : decode cX5_day 133 = .ok (.iload_n 1, 1) := by decide +kernel
theorem dX5_day_134 : decode cX5_day 134 = .ok (.iconst 4, 1) := by decide +kernel
theorem dX5_day_135 : decode cX5_day 135 = .ok (.invokestatic 56, 3) := by decide +kernel
theorem dX5_day_138 : decode cX5_day 138 = .ok (.aload_n 0, 1) := by decide +kernel
theorem dX5_day_139 : decode cX5_day 139 = .ok (.iload_n 1, 1) := by decide +kernel
theorem dX5_day_140 : decode cX5_day 140 = .ok (.invokevirtual 135, 3) := by decide +kernel
theorem dX5_day_143 : decode cX5_day 143 = .ok (.iastore, 1) := by decide +kernel
theorem dX5_day_144 : decode cX5_day 144 = .ok (.iinc 1 1, 3) := by decide +kernel
theorem dX5_day_147 : decode cX5_day 147 = .ok (.goto (-51), 3) := by decide +kernel
theorem dX5_day_150 : decode cX5_day 150 = .ok (.aload_n 0, 1) := by decide +kernel
theorem dX5_day_151 : decode cX5_day 151 = .ok (.getfield 7, 3) := by decide +kernel
theorem dX5_day_154 : decode cX5_day 154 = .ok (.iconst 1, 1) := by decide +kernel
theorem dX5_day_155 : decode cX5_day 155 = .ok (.dup2, 1) := by decide +kernel
theorem dX5_day_156 : decode cX5_day 156 = .ok (.iaload, 1) := by decide +kernel
theorem dX5_day_157 : decode cX5_day 157 = .ok (.iconst 1, 1) := by decide +kernel
theorem dX5_day_158 : decode cX5_day 158 = .ok (.iadd, 1) := by decide +kernel
theorem dX5_day_159 : decode cX5_day 159 = .ok (.iastore, 1) := by decide +kernel
theorem dX5_day_160 : decode cX5_day 160 = .ok (.return_, 1) := by decide +kernel
theorem dX5_daysGo_0 : decode cX5_daysGo 0 = .ok (.iconst 0, 1) := by decide +kernel
theorem dX5_daysGo_1 : decode cX5_daysGo 1 = .ok (.istore_n 2, 1) := by decide +kernel
theorem dX5_daysGo_2 : decode cX5_daysGo 2 = .ok (.iload_n 2, 1) := by decide +kernel
theorem dX5_daysGo_3 : decode cX5_daysGo 3 = .ok (.iload_n 1, 1) := by decide +kernel
theorem dX5_daysGo_4 : decode cX5_daysGo 4 = .ok (.if_icmp .ge 13, 3) := by decide +kernel
theorem dX5_daysGo_7 : decode cX5_daysGo 7 = .ok (.aload_n 0, 1) := by decide +kernel
theorem dX5_daysGo_8 : decode cX5_daysGo 8 = .ok (.invokevirtual 163, 3) := by decide +kernel
theorem dX5_daysGo_11 : decode cX5_daysGo 11 = .ok (.iinc 2 1, 3) := by decide +kernel
theorem dX5_daysGo_14 : decode cX5_daysGo 14 = .ok (.goto (-12), 3) := by decide +kernel
theorem dX5_daysGo_17 : decode cX5_daysGo 17 = .ok (.return_, 1) := by decide +kernel
theorem dX5_days_0 : decode cX5_days 0 = .ok (.iload_n 1, 1) := by decide +kernel
theorem dX5_days_1 : decode cX5_days 1 = .ok (.i2l, 1) := by decide +kernel
theorem dX5_days_2 : decode cX5_days 2 = .ok (.lconst 1, 1) := by decide +kernel
theorem dX5_days_3 : decode cX5_days 3 = .ok (.ldc2_w 166, 3) := by decide +kernel
theorem dX5_days_6 : decode cX5_days 6 = .ok (.invokestatic 48, 3) := by decide +kernel
theorem dX5_days_9 : decode cX5_days 9 = .ok (.ifCond .ne 10, 3) := by decide +kernel
theorem dX5_days_12 : decode cX5_days 12 = .ok (.aload_n 0, 1) := by decide +kernel
theorem dX5_days_13 : decode cX5_days 13 = .ok (.ldc 45, 2) := by decide +kernel
theorem dX5_days_15 : decode cX5_days 15 = .ok (.invokevirtual 74, 3) := by decide +kernel
theorem dX5_days_18 : decode cX5_days 18 = .ok (.ireturn, 1) := by decide +kernel
theorem dX5_days_19 : decode cX5_days 19 = .ok (.aload_n 0, 1) := by decide +kernel
theorem dX5_days_20 : decode cX5_days 20 = .ok (.getfield 7, 3) := by decide +kernel
theorem dX5_days_23 : decode cX5_days 23 = .ok (.iconst 1, 1) := by decide +kernel
theorem dX5_days_24 : decode cX5_days 24 = .ok (.iaload, 1) := by decide +kernel
theorem dX5_days_25 : decode cX5_days 25 = .ok (.iload_n 1, 1) := by decide +kernel
theorem dX5_days_26 : decode cX5_days 26 = .ok (.iadd, 1) := by decide +kernel
theorem dX5_days_27 : decode cX5_days 27 = .ok (.sipush 9999, 3) := by decide +kernel
theorem dX5_days_30 : decode cX5_days 30 = .ok (.if_icmp .le 10, 3) := by decide +kernel
theorem dX5_days_33 : decode cX5_days 33 = .ok (.aload_n 0, 1) := by decide +kernel
theorem dX5_days_34 : decode cX5_days 34 = .ok (.ldc 134, 2) := by decide +kernel
theorem dX5_days_36 : decode cX5_days 36 = .ok (.invokevirtual 74, 3) := by decide +kernel
theorem dX5_days_39 : decode cX5_days 39 = .ok (.ireturn, 1) := by decide +kernel
theorem dX5_days_40 : decode cX5_days 40 = .ok (.aload_n 0, 1) := by decide +kernel
theorem dX5_days_41 : decode cX5_days 41 = .ok (.iload_n 1, 1) := by decide +kernel
theorem dX5_days_42 : decode cX5_days 42 = .ok (.invokevirtual 168, 3) := by decide +kernel
theorem dX5_days_45 : decode cX5_days 45 = .ok (.aload_n 0, 1) := by decide +kernel
theorem dX5_days_46 : decode cX5_days 46 = .ok (.getfield 7, 3) := by decide +kernel
theorem dX5_days_49 : decode cX5_days 49 = .ok (.iconst 0, 1) := by decide +kernel
theorem dX5_days_50 : decode cX5_days 50 = .ok (.iaload, 1) := by decide +kernel
theorem dX5_days_51 : decode cX5_days 51 = .ok (.ireturn, 1) := by decide +kernel
theorem dX5_larders_0 : decode cX5_larders 0 = .ok (.iconst 0, 1) := by decide +kernel
theorem dX5_larders_1 : decode cX5_larders 1 = .ok (.istore_n 1, 1) := by decide +kernel
theorem dX5_larders_2 : decode cX5_larders 2 = .ok (.iconst 0, 1) := by decide +kernel
theorem dX5_larders_3 : decode cX5_larders 3 = .ok (.istore_n 2, 1) := by decide +kernel
theorem dX5_larders_4 : decode cX5_larders 4 = .ok (.iload_n 2, 1) := by decide +kernel
theorem dX5_larders_5 : decode cX5_larders 5 = .ok (.bipush 8, 2) := by decide +kernel
theorem dX5_larders_7 : decode cX5_larders 7 = .ok (.if_icmp .ge 18, 3) := by decide +kernel
theorem dX5_larders_10 : decode cX5_larders 10 = .ok (.iload_n 1, 1) := by decide +kernel
theorem dX5_larders_11 : decode cX5_larders 11 = .ok (.aload_n 0, 1) := by decide +kernel
theorem dX5_larders_12 : decode cX5_larders 12 = .ok (.iload_n 2, 1) := by decide +kernel
theorem dX5_larders_13 : decode cX5_larders 13 = .ok (.iconst 1, 1) := by decide +kernel
theorem dX5_larders_14 : decode cX5_larders 14 = .ok (.invokevirtual 84, 3) := by decide +kernel
theorem dX5_larders_17 : decode cX5_larders 17 = .ok (.iadd, 1) := by decide +kernel
theorem dX5_larders_18 : decode cX5_larders 18 = .ok (.istore_n 1, 1) := by decide +kernel
theorem dX5_larders_19 : decode cX5_larders 19 = .ok (.iinc 2 1, 3) := by decide +kernel
theorem dX5_larders_22 : decode cX5_larders 22 = .ok (.goto (-18), 3) := by decide +kernel
theorem dX5_larders_25 : decode cX5_larders 25 = .ok (.iload_n 1, 1) := by decide +kernel
theorem dX5_larders_26 : decode cX5_larders 26 = .ok (.ireturn, 1) := by decide +kernel
theorem dX5_bulks_0 : decode cX5_bulks 0 = .ok (.iconst 0, 1) := by decide +kernel
theorem dX5_bulks_1 : decode cX5_bulks 1 = .ok (.istore_n 1, 1) := by decide +kernel
theorem dX5_bulks_2 : decode cX5_bulks 2 = .ok (.iconst 0, 1) := by decide +kernel
theorem dX5_bulks_3 : decode cX5_bulks 3 = .ok (.istore_n 2, 1) := by decide +kernel
theorem dX5_bulks_4 : decode cX5_bulks 4 = .ok (.iload_n 2, 1) := by decide +kernel
theorem dX5_bulks_5 : decode cX5_bulks 5 = .ok (.aload_n 0, 1) := by decide +kernel
theorem dX5_bulks_6 : decode cX5_bulks 6 = .ok (.getfield 7, 3) := by decide +kernel
theorem dX5_bulks_9 : decode cX5_bulks 9 = .ok (.iconst 0, 1) := by decide +kernel
theorem dX5_bulks_10 : decode cX5_bulks 10 = .ok (.iaload, 1) := by decide +kernel
theorem dX5_bulks_11 : decode cX5_bulks 11 = .ok (.if_icmp .ge 18, 3) := by decide +kernel
theorem dX5_bulks_14 : decode cX5_bulks 14 = .ok (.iload_n 1, 1) := by decide +kernel
theorem dX5_bulks_15 : decode cX5_bulks 15 = .ok (.aload_n 0, 1) := by decide +kernel
theorem dX5_bulks_16 : decode cX5_bulks 16 = .ok (.iload_n 2, 1) := by decide +kernel
theorem dX5_bulks_17 : decode cX5_bulks 17 = .ok (.iconst 2, 1) := by decide +kernel
theorem dX5_bulks_18 : decode cX5_bulks 18 = .ok (.invokevirtual 78, 3) := by decide +kernel
theorem dX5_bulks_21 : decode cX5_bulks 21 = .ok (.iadd, 1) := by decide +kernel
theorem dX5_bulks_22 : decode cX5_bulks 22 = .ok (.istore_n 1, 1) := by decide +kernel
theorem dX5_bulks_23 : decode cX5_bulks 23 = .ok (.iinc 2 1, 3) := by decide +kernel
theorem dX5_bulks_26 : decode cX5_bulks 26 = .ok (.goto (-22), 3) := by decide +kernel
theorem dX5_bulks_29 : decode cX5_bulks 29 = .ok (.iload_n 1, 1) := by decide +kernel
theorem dX5_bulks_30 : decode cX5_bulks 30 = .ok (.ireturn, 1) := by decide +kernel
theorem dX5_freeBeds_0 : decode cX5_freeBeds 0 = .ok (.iconst 0, 1) := by decide +kernel
theorem dX5_freeBeds_1 : decode cX5_freeBeds 1 = .ok (.istore_n 1, 1) := by decide +kernel
theorem dX5_freeBeds_2 : decode cX5_freeBeds 2 = .ok (.iconst 0, 1) := by decide +kernel
theorem dX5_freeBeds_3 : decode cX5_freeBeds 3 = .ok (.istore_n 2, 1) := by decide +kernel
theorem dX5_freeBeds_4 : decode cX5_freeBeds 4 = .ok (.iload_n 2, 1) := by decide +kernel
theorem dX5_freeBeds_5 : decode cX5_freeBeds 5 = .ok (.bipush 8, 2) := by decide +kernel
theorem dX5_freeBeds_7 : decode cX5_freeBeds 7 = .ok (.if_icmp .ge 39, 3) := by decide +kernel
theorem dX5_freeBeds_10 : decode cX5_freeBeds 10 = .ok (.iload_n 1, 1) := by decide +kernel
theorem dX5_freeBeds_11 : decode cX5_freeBeds 11 = .ok (.aload_n 0, 1) := by decide +kernel
theorem dX5_freeBeds_12 : decode cX5_freeBeds 12 = .ok (.iload_n 2, 1) := by decide +kernel
theorem dX5_freeBeds_13 : decode cX5_freeBeds 13 = .ok (.invokevirtual 125, 3) := by decide +kernel
theorem dX5_freeBeds_16 : decode cX5_freeBeds 16 = .ok (.ifCond .eq 21, 3) := by decide +kernel
theorem dX5_freeBeds_19 : decode cX5_freeBeds 19 = .ok (.aload_n 0, 1) := by decide +kernel
theorem dX5_freeBeds_20 : decode cX5_freeBeds 20 = .ok (.iload_n 2, 1) := by decide +kernel
theorem dX5_freeBeds_21 : decode cX5_freeBeds 21 = .ok (.iconst 0, 1) := by decide +kernel
theorem dX5_freeBeds_22 : decode cX5_freeBeds 22 = .ok (.invokevirtual 84, 3) := by decide +kernel
theorem dX5_freeBeds_25 : decode cX5_freeBeds 25 = .ok (.aload_n 0, 1) := by decide +kernel
theorem dX5_freeBeds_26 : decode cX5_freeBeds 26 = .ok (.iload_n 2, 1) := by decide +kernel
theorem dX5_freeBeds_27 : decode cX5_freeBeds 27 = .ok (.invokevirtual 87, 3) := by decide +kernel
theorem dX5_freeBeds_30 : decode cX5_freeBeds 30 = .ok (.invokestatic 122, 3) := by decide +kernel
theorem dX5_freeBeds_33 : decode cX5_freeBeds 33 = .ok (.isub, 1) := by decide +kernel
theorem dX5_freeBeds_34 : decode cX5_freeBeds 34 = .ok (.goto 4, 3) := by decide +kernel
theorem dX5_freeBeds_37 : decode cX5_freeBeds 37 = .ok (.iconst 0, 1) := by decide +kernel
theorem dX5_freeBeds_38 : decode cX5_freeBeds 38 = .ok (.iadd, 1) := by decide +kernel
theorem dX5_freeBeds_39 : decode cX5_freeBeds 39 = .ok (.istore_n 1, 1) := by decide +kernel
theorem dX5_freeBeds_40 : decode cX5_freeBeds 40 = .ok (.iinc 2 1, 3) := by decide +kernel
theorem dX5_freeBeds_43 : decode cX5_freeBeds 43 = .ok (.goto (-39), 3) := by decide +kernel
theorem dX5_freeBeds_46 : decode cX5_freeBeds 46 = .ok (.iload_n 1, 1) := by decide +kernel
theorem dX5_freeBeds_47 : decode cX5_freeBeds 47 = .ok (.ireturn, 1) := by decide +kernel
theorem dX5_eaten_0 : decode cX5_eaten 0 = .ok (.iconst 0, 1) := by decide +kernel
theorem dX5_eaten_1 : decode cX5_eaten 1 = .ok (.istore_n 1, 1) := by decide +kernel
theorem dX5_eaten_2 : decode cX5_eaten 2 = .ok (.iconst 0, 1) := by decide +kernel
theorem dX5_eaten_3 : decode cX5_eaten 3 = .ok (.istore_n 2, 1) := by decide +kernel
theorem dX5_eaten_4 : decode cX5_eaten 4 = .ok (.iload_n 2, 1) := by decide +kernel
theorem dX5_eaten_5 : decode cX5_eaten 5 = .ok (.bipush 8, 2) := by decide +kernel
theorem dX5_eaten_7 : decode cX5_eaten 7 = .ok (.if_icmp .ge 17, 3) := by decide +kernel
theorem dX5_eaten_10 : decode cX5_eaten 10 = .ok (.iload_n 1, 1) := by decide +kernel
theorem dX5_eaten_11 : decode cX5_eaten 11 = .ok (.aload_n 0, 1) := by decide +kernel
theorem dX5_eaten_12 : decode cX5_eaten 12 = .ok (.iload_n 2, 1) := by decide +kernel
theorem dX5_eaten_13 : decode cX5_eaten 13 = .ok (.invokevirtual 93, 3) := by decide +kernel
theorem dX5_eaten_16 : decode cX5_eaten 16 = .ok (.iadd, 1) := by decide +kernel
theorem dX5_eaten_17 : decode cX5_eaten 17 = .ok (.istore_n 1, 1) := by decide +kernel
theorem dX5_eaten_18 : decode cX5_eaten 18 = .ok (.iinc 2 1, 3) := by decide +kernel
theorem dX5_eaten_21 : decode cX5_eaten 21 = .ok (.goto (-17), 3) := by decide +kernel
theorem dX5_eaten_24 : decode cX5_eaten 24 = .ok (.iload_n 1, 1) := by decide +kernel
theorem dX5_eaten_25 : decode cX5_eaten 25 = .ok (.ireturn, 1) := by decide +kernel
theorem dX5_now_0 : decode cX5_now 0 = .ok (.iload_n 1, 1) := by decide +kernel
theorem dX5_now_1 : decode cX5_now 1 = .ok (.tableswitch 83 0 6 #[43, 50, 57, 63, 68, 73, 78], 43) := by decide +kernel
theorem dX5_now_44 : decode cX5_now 44 = .ok (.aload_n 0, 1) := by decide +kernel
theorem dX5_now_45 : decode cX5_now 45 = .ok (.getfield 7, 3) := by decide +kernel
theorem dX5_now_48 : decode cX5_now 48 = .ok (.iconst 1, 1) := by decide +kernel
theorem dX5_now_49 : decode cX5_now 49 = .ok (.iaload, 1) := by decide +kernel
theorem dX5_now_50 : decode cX5_now 50 = .ok (.ireturn, 1) := by decide +kernel
theorem dX5_now_51 : decode cX5_now 51 = .ok (.aload_n 0, 1) := by decide +kernel
theorem dX5_now_52 : decode cX5_now 52 = .ok (.getfield 7, 3) := by decide +kernel
theorem dX5_now_55 : decode cX5_now 55 = .ok (.iconst 2, 1) := by decide +kernel
theorem dX5_now_56 : decode cX5_now 56 = .ok (.iaload, 1) := by decide +kernel
theorem dX5_now_57 : decode cX5_now 57 = .ok (.ireturn, 1) := by decide +kernel
theorem dX5_now_58 : decode cX5_now 58 = .ok (.aload_n 0, 1) := by decide +kernel
theorem dX5_now_59 : decode cX5_now 59 = .ok (.iconst (-1), 1) := by decide +kernel
theorem dX5_now_60 : decode cX5_now 60 = .ok (.invokevirtual 87, 3) := by decide +kernel
theorem dX5_now_63 : decode cX5_now 63 = .ok (.ireturn, 1) := by decide +kernel
theorem dX5_now_64 : decode cX5_now 64 = .ok (.aload_n 0, 1) := by decide +kernel
theorem dX5_now_65 : decode cX5_now 65 = .ok (.invokevirtual 171, 3) := by decide +kernel
theorem dX5_now_68 : decode cX5_now 68 = .ok (.ireturn, 1) := by decide +kernel
theorem dX5_now_69 : decode cX5_now 69 = .ok (.aload_n 0, 1) := by decide +kernel
theorem dX5_now_70 : decode cX5_now 70 = .ok (.invokevirtual 175, 3) := by decide +kernel
theorem dX5_now_73 : decode cX5_now 73 = .ok (.ireturn, 1) := by decide +kernel
theorem dX5_now_74 : decode cX5_now 74 = .ok (.aload_n 0, 1) := by decide +kernel
theorem dX5_now_75 : decode cX5_now 75 = .ok (.invokevirtual 178, 3) := by decide +kernel
theorem dX5_now_78 : decode cX5_now 78 = .ok (.ireturn, 1) := by decide +kernel
theorem dX5_now_79 : decode cX5_now 79 = .ok (.aload_n 0, 1) := by decide +kernel
theorem dX5_now_80 : decode cX5_now 80 = .ok (.invokevirtual 181, 3) := by decide +kernel
theorem dX5_now_83 : decode cX5_now 83 = .ok (.ireturn, 1) := by decide +kernel
theorem dX5_now_84 : decode cX5_now 84 = .ok (.aload_n 0, 1) := by decide +kernel
theorem dX5_now_85 : decode cX5_now 85 = .ok (.ldc 45, 2) := by decide +kernel
theorem dX5_now_87 : decode cX5_now 87 = .ok (.invokevirtual 74, 3) := by decide +kernel
theorem dX5_now_90 : decode cX5_now 90 = .ok (.ireturn, 1) := by decide +kernel
theorem dX5_isAhead_0 : decode cX5_isAhead 0 = .ok (.iload_n 0, 1) := by decide +kernel
theorem dX5_isAhead_1 : decode cX5_isAhead 1 = .ok (.i2l, 1) := by decide +kernel
theorem dX5_isAhead_2 : decode cX5_isAhead 2 = .ok (.lconst 0, 1) := by decide +kernel
theorem dX5_isAhead_3 : decode cX5_isAhead 3 = .ok (.ldc2_w 166, 3) := by decide +kernel
theorem dX5_isAhead_6 : decode cX5_isAhead 6 = .ok (.invokestatic 48, 3) := by decide +kernel
theorem dX5_isAhead_9 : decode cX5_isAhead 9 = .ok (.ireturn, 1) := by decide +kernel
theorem dX5_behind_0 : decode cX5_behind 0 = .ok (.aload_n 0, 1) := by decide +kernel
theorem dX5_behind_1 : decode cX5_behind 1 = .ok (.invokevirtual 184, 3) := by decide +kernel
theorem dX5_behind_4 : decode cX5_behind 4 = .ok (.aload_n 0, 1) := by decide +kernel
theorem dX5_behind_5 : decode cX5_behind 5 = .ok (.iload_n 2, 1) := by decide +kernel
theorem dX5_behind_6 : decode cX5_behind 6 = .ok (.invokevirtual 168, 3) := by decide +kernel
theorem dX5_behind_9 : decode cX5_behind 9 = .ok (.aload_n 0, 1) := by decide +kernel
theorem dX5_behind_10 : decode cX5_behind 10 = .ok (.aload_n 0, 1) := by decide +kernel
theorem dX5_behind_11 : decode cX5_behind 11 = .ok (.getfield 7, 3) := by decide +kernel
theorem dX5_behind_14 : decode cX5_behind 14 = .ok (.iload_n 1, 1) := by decide +kernel
theorem dX5_behind_15 : decode cX5_behind 15 = .ok (.iaload, 1) := by decide +kernel
theorem dX5_behind_16 : decode cX5_behind 16 = .ok (.invokevirtual 187, 3) := by decide +kernel
theorem dX5_behind_19 : decode cX5_behind 19 = .ok (.ireturn, 1) := by decide +kernel
theorem dX5_on_0 : decode cX5_on 0 = .ok (.aload_n 0, 1) := by decide +kernel
theorem dX5_on_1 : decode cX5_on 1 = .ok (.iload_n 1, 1) := by decide +kernel
theorem dX5_on_2 : decode cX5_on 2 = .ok (.invokevirtual 106, 3) := by decide +kernel
theorem dX5_on_5 : decode cX5_on 5 = .ok (.ifCond .eq 20, 3) := by decide +kernel
theorem dX5_on_8 : decode cX5_on 8 = .ok (.iload_n 2, 1) := by decide +kernel
theorem dX5_on_9 : decode cX5_on 9 = .ok (.invokestatic 190, 3) := by decide +kernel
theorem dX5_on_12 : decode cX5_on 12 = .ok (.ifCond .eq 13, 3) := by decide +kernel
theorem dX5_on_15 : decode cX5_on 15 = .ok (.iload_n 3, 1) := by decide +kernel
theorem dX5_on_16 : decode cX5_on 16 = .ok (.i2l, 1) := by decide +kernel
theorem dX5_on_17 : decode cX5_on 17 = .ok (.lconst 0, 1) := by decide +kernel
theorem dX5_on_18 : decode cX5_on 18 = .ok (.lconst 1, 1) := by decide +kernel
theorem dX5_on_19 : decode cX5_on 19 = .ok (.invokestatic 48, 3) := by decide +kernel
theorem dX5_on_22 : decode cX5_on 22 = .ok (.ifCond .ne 10, 3) := by decide +kernel
theorem dX5_on_25 : decode cX5_on 25 = .ok (.aload_n 0, 1) := by decide +kernel
theorem dX5_on_26 : decode cX5_on 26 = .ok (.ldc 45, 2) := by decide +kernel
theorem dX5_on_28 : decode cX5_on 28 = .ok (.invokevirtual 74, 3) := by decide +kernel
theorem dX5_on_31 : decode cX5_on 31 = .ok (.ireturn, 1) := by decide +kernel
theorem dX5_on_32 : decode cX5_on 32 = .ok (.aload_n 0, 1) := by decide +kernel
theorem dX5_on_33 : decode cX5_on 33 = .ok (.iload_n 1, 1) := by decide +kernel
theorem dX5_on_34 : decode cX5_on 34 = .ok (.iload_n 3, 1) := by decide +kernel
theorem dX5_on_35 : decode cX5_on 35 = .ok (.ifCond .ne 7, 3) := by decide +kernel
theorem dX5_on_38 : decode cX5_on 38 = .ok (.iconst 4, 1) := by decide +kernel
theorem dX5_on_39 : decode cX5_on 39 = .ok (.goto 4, 3) := by decide +kernel
theorem dX5_on_42 : decode cX5_on 42 = .ok (.iconst 2, 1) := by decide +kernel
theorem dX5_on_43 : decode cX5_on 43 = .ok (.invokestatic 56, 3) := by decide +kernel
theorem dX5_on_46 : decode cX5_on 46 = .ok (.iload_n 2, 1) := by decide +kernel
theorem dX5_on_47 : decode cX5_on 47 = .ok (.invokevirtual 193, 3) := by decide +kernel
theorem dX5_on_50 : decode cX5_on 50 = .ok (.ireturn, 1) := by decide +kernel
theorem dX5_larder_0 : decode cX5_larder 0 = .ok (.iload_n 1, 1) := by decide +kernel
theorem dX5_larder_1 : decode cX5_larder 1 = .ok (.invokestatic 67, 3) := by decide +kernel
theorem dX5_larder_4 : decode cX5_larder 4 = .ok (.ifCond .eq 23, 3) := by decide +kernel
theorem dX5_larder_7 : decode cX5_larder 7 = .ok (.iload_n 2, 1) := by decide +kernel
theorem dX5_larder_8 : decode cX5_larder 8 = .ok (.invokestatic 190, 3) := by decide +kernel
theorem dX5_larder_11 : decode cX5_larder 11 = .ok (.ifCond .eq 16, 3) := by decide +kernel
theorem dX5_larder_14 : decode cX5_larder 14 = .ok (.aload_n 0, 1) := by decide +kernel
theorem dX5_larder_15 : decode cX5_larder 15 = .ok (.iload_n 1, 1) := by decide +kernel
theorem dX5_larder_16 : decode cX5_larder 16 = .ok (.iconst 1, 1) := by decide +kernel
theorem dX5_larder_17 : decode cX5_larder 17 = .ok (.invokestatic 41, 3) := by decide +kernel
theorem dX5_larder_20 : decode cX5_larder 20 = .ok (.iload_n 2, 1) := by decide +kernel
theorem dX5_larder_21 : decode cX5_larder 21 = .ok (.invokevirtual 193, 3) := by decide +kernel
theorem dX5_larder_24 : decode cX5_larder 24 = .ok (.goto 9, 3) := by decide +kernel
theorem dX5_larder_27 : decode cX5_larder 27 = .ok (.aload_n 0, 1) := by decide +kernel
theorem dX5_larder_28 : decode cX5_larder 28 = .ok (.ldc 45, 2) := by decide +kernel
theorem dX5_larder_30 : decode cX5_larder 30 = .ok (.invokevirtual 74, 3) := by decide +kernel
theorem dX5_larder_33 : decode cX5_larder 33 = .ok (.ireturn, 1) := by decide +kernel
theorem dX5_firstAs_0 : decode cX5_firstAs 0 = .ok (.aload_n 0, 1) := by decide +kernel
theorem dX5_firstAs_1 : decode cX5_firstAs 1 = .ok (.invokevirtual 184, 3) := by decide +kernel
theorem dX5_firstAs_4 : decode cX5_firstAs 4 = .ok (.iconst 0, 1) := by decide +kernel
theorem dX5_firstAs_5 : decode cX5_firstAs 5 = .ok (.istore_n 3, 1) := by decide +kernel
theorem dX5_firstAs_6 : decode cX5_firstAs 6 = .ok (.iload_n 3, 1) := by decide +kernel
theorem dX5_firstAs_7 : decode cX5_firstAs 7 = .ok (.bipush 60, 2) := by decide +kernel
theorem dX5_firstAs_9 : decode cX5_firstAs 9 = .ok (.if_icmp .gt 23, 3) := by decide +kernel
theorem dX5_firstAs_12 : decode cX5_firstAs 12 = .ok (.aload_n 0, 1) := by decide +kernel
theorem dX5_firstAs_13 : decode cX5_firstAs 13 = .ok (.getfield 7, 3) := by decide +kernel
theorem dX5_firstAs_16 : decode cX5_firstAs 16 = .ok (.iload_n 1, 1) := by decide +kernel
theorem dX5_firstAs_17 : decode cX5_firstAs 17 = .ok (.iaload, 1) := by decide +kernel
theorem dX5_firstAs_18 : decode cX5_firstAs 18 = .ok (.iload_n 2, 1) := by decide +kernel
theorem dX5_firstAs_19 : decode cX5_firstAs 19 = .ok (.if_icmp .eq 13, 3) := by decide +kernel
theorem dX5_firstAs_22 : decode cX5_firstAs 22 = .ok (.aload_n 0, 1) := by decide +kernel
theorem dX5_firstAs_23 : decode cX5_firstAs 23 = .ok (.invokevirtual 163, 3) := by decide +kernel
theorem dX5_firstAs_26 : decode cX5_firstAs 26 = .ok (.iinc 3 1, 3) := by decide +kernel
theorem dX5_firstAs_29 : decode cX5_firstAs 29 = .ok (.goto (-23), 3) := by decide +kernel
theorem dX5_firstAs_32 : decode cX5_firstAs 32 = .ok (.aload_n 0, 1) := by decide +kernel
theorem dX5_firstAs_33 : decode cX5_firstAs 33 = .ok (.iload_n 3, 1) := by decide +kernel
theorem dX5_firstAs_34 : decode cX5_firstAs 34 = .ok (.invokevirtual 187, 3) := by decide +kernel
theorem dX5_firstAs_37 : decode cX5_firstAs 37 = .ok (.istore 4, 2) := by decide +kernel
theorem dX5_firstAs_39 : decode cX5_firstAs 39 = .ok (.iload 4, 2) := by decide +kernel
theorem dX5_firstAs_41 : decode cX5_firstAs 41 = .ok (.bipush 60, 2) := by decide +kernel
theorem dX5_firstAs_43 : decode cX5_firstAs 43 = .ok (.if_icmp .le 12, 3) := by decide +kernel
theorem dX5_firstAs_46 : decode cX5_firstAs 46 = .ok (.aload_n 0, 1) := by decide +kernel
theorem dX5_firstAs_47 : decode cX5_firstAs 47 = .ok (.ldc 196, 2) := by decide +kernel
theorem dX5_firstAs_49 : decode cX5_firstAs 49 = .ok (.invokevirtual 74, 3) := by decide +kernel
theorem dX5_firstAs_52 : decode cX5_firstAs 52 = .ok (.goto 5, 3) := by decide +kernel
theorem dX5_firstAs_55 : decode cX5_firstAs 55 = .ok (.iload 4, 2) := by decide +kernel
theorem dX5_firstAs_57 : decode cX5_firstAs 57 = .ok (.ireturn, 1) := by decide +kernel
theorem dX5_empty_0 : decode cX5_empty 0 = .ok (.iload_n 1, 1) := by decide +kernel
theorem dX5_empty_1 : decode cX5_empty 1 = .ok (.invokestatic 67, 3) := by decide +kernel
theorem dX5_empty_4 : decode cX5_empty 4 = .ok (.ifCond .eq 16, 3) := by decide +kernel
theorem dX5_empty_7 : decode cX5_empty 7 = .ok (.aload_n 0, 1) := by decide +kernel
theorem dX5_empty_8 : decode cX5_empty 8 = .ok (.iload_n 1, 1) := by decide +kernel
theorem dX5_empty_9 : decode cX5_empty 9 = .ok (.iconst 1, 1) := by decide +kernel
theorem dX5_empty_10 : decode cX5_empty 10 = .ok (.invokestatic 41, 3) := by decide +kernel
theorem dX5_empty_13 : decode cX5_empty 13 = .ok (.iconst 0, 1) := by decide +kernel
theorem dX5_empty_14 : decode cX5_empty 14 = .ok (.invokevirtual 197, 3) := by decide +kernel
theorem dX5_empty_17 : decode cX5_empty 17 = .ok (.goto 9, 3) := by decide +kernel
theorem dX5_empty_20 : decode cX5_empty 20 = .ok (.aload_n 0, 1) := by decide +kernel
theorem dX5_empty_21 : decode cX5_empty 21 = .ok (.ldc 45, 2) := by decide +kernel
theorem dX5_empty_23 : decode cX5_empty 23 = .ok (.invokevirtual 74, 3) := by decide +kernel
theorem dX5_empty_26 : decode cX5_empty 26 = .ok (.ireturn, 1) := by decide +kernel
theorem dX5_many_0 : decode cX5_many 0 = .ok (.iload_n 1, 1) := by decide +kernel
theorem dX5_many_1 : decode cX5_many 1 = .ok (.invokestatic 190, 3) := by decide +kernel
theorem dX5_many_4 : decode cX5_many 4 = .ok (.ifCond .eq 12, 3) := by decide +kernel
theorem dX5_many_7 : decode cX5_many 7 = .ok (.aload_n 0, 1) := by decide +kernel
theorem dX5_many_8 : decode cX5_many 8 = .ok (.iconst 0, 1) := by decide +kernel
theorem dX5_many_9 : decode cX5_many 9 = .ok (.iload_n 1, 1) := by decide +kernel
theorem dX5_many_10 : decode cX5_many 10 = .ok (.invokevirtual 193, 3) := by decide +kernel
theorem dX5_many_13 : decode cX5_many 13 = .ok (.goto 9, 3) := by decide +kernel
theorem dX5_many_16 : decode cX5_many 16 = .ok (.aload_n 0, 1) := by decide +kernel
theorem dX5_many_17 : decode cX5_many 17 = .ok (.ldc 45, 2) := by decide +kernel
theorem dX5_many_19 : decode cX5_many 19 = .ok (.invokevirtual 74, 3) := by decide +kernel
theorem dX5_many_22 : decode cX5_many 22 = .ok (.ireturn, 1) := by decide +kernel
theorem dX5_out_0 : decode cX5_out 0 = .ok (.aload_n 0, 1) := by decide +kernel
theorem dX5_out_1 : decode cX5_out 1 = .ok (.iload_n 1, 1) := by decide +kernel
theorem dX5_out_2 : decode cX5_out 2 = .ok (.invokevirtual 106, 3) := by decide +kernel
theorem dX5_out_5 : decode cX5_out 5 = .ok (.ifCond .eq 16, 3) := by decide +kernel
theorem dX5_out_8 : decode cX5_out 8 = .ok (.aload_n 0, 1) := by decide +kernel
theorem dX5_out_9 : decode cX5_out 9 = .ok (.iload_n 1, 1) := by decide +kernel
theorem dX5_out_10 : decode cX5_out 10 = .ok (.iconst 4, 1) := by decide +kernel
theorem dX5_out_11 : decode cX5_out 11 = .ok (.invokestatic 56, 3) := by decide +kernel
theorem dX5_out_14 : decode cX5_out 14 = .ok (.iconst (-1), 1) := by decide +kernel
theorem dX5_out_15 : decode cX5_out 15 = .ok (.invokevirtual 197, 3) := by decide +kernel
theorem dX5_out_18 : decode cX5_out 18 = .ok (.goto 9, 3) := by decide +kernel
theorem dX5_out_21 : decode cX5_out 21 = .ok (.aload_n 0, 1) := by decide +kernel
theorem dX5_out_22 : decode cX5_out 22 = .ok (.ldc 45, 2) := by decide +kernel
theorem dX5_out_24 : decode cX5_out 24 = .ok (.invokevirtual 74, 3) := by decide +kernel
theorem dX5_out_27 : decode cX5_out 27 = .ok (.ireturn, 1) := by decide +kernel
theorem dX5_wrongLodger_0 : decode cX5_wrongLodger 0 = .ok (.aload_n 0, 1) := by decide +kernel
theorem dX5_wrongLodger_1 : decode cX5_wrongLodger 1 = .ok (.iload_n 1, 1) := by decide +kernel
end
section
theorem dX5_wrongLodger_2 : decode cX5_wrongLodger 2 = .ok (.iconst 4, 1) := by decide +kernel
theorem dX5_wrongLodger_3 : decode cX5_wrongLodger 3 = .ok (.invokevirtual 78, 3) := by decide +kernel
theorem dX5_wrongLodger_6 : decode cX5_wrongLodger 6 = .ok (.iconst (-1), 1) := by decide +kernel
theorem dX5_wrongLodger_7 : decode cX5_wrongLodger 7 = .ok (.if_icmp .ne 8, 3) := by decide +kernel
theorem dX5_wrongLodger_10 : decode cX5_wrongLodger 10 = .ok (.ldc 134, 2) := by decide +kernel
theorem dX5_wrongLodger_12 : decode cX5_wrongLodger 12 = .ok (.goto 4, 3) := by decide +kernel
theorem dX5_wrongLodger_15 : decode cX5_wrongLodger 15 = .ok (.iconst 0, 1) := by decide +kernel
theorem dX5_wrongLodger_16 : decode cX5_wrongLodger 16 = .ok (.ireturn, 1) := by decide +kernel
theorem dX5_fewest_0 : decode cX5_fewest 0 = .ok (.aload_n 0, 1) := by decide +kernel
theorem dX5_fewest_1 : decode cX5_fewest 1 = .ok (.iload_n 1, 1) := by decide +kernel
theorem dX5_fewest_2 : decode cX5_fewest 2 = .ok (.invokevirtual 106, 3) := by decide +kernel
theorem dX5_fewest_5 : decode cX5_fewest 5 = .ok (.ifCond .eq 10, 3) := by decide +kernel
theorem dX5_fewest_8 : decode cX5_fewest 8 = .ok (.iload_n 2, 1) := by decide +kernel
theorem dX5_fewest_9 : decode cX5_fewest 9 = .ok (.invokestatic 67, 3) := by decide +kernel
theorem dX5_fewest_12 : decode cX5_fewest 12 = .ok (.ifCond .ne 10, 3) := by decide +kernel
theorem dX5_fewest_15 : decode cX5_fewest 15 = .ok (.aload_n 0, 1) := by decide +kernel
theorem dX5_fewest_16 : decode cX5_fewest 16 = .ok (.ldc 45, 2) := by decide +kernel
theorem dX5_fewest_18 : decode cX5_fewest 18 = .ok (.invokevirtual 74, 3) := by decide +kernel
theorem dX5_fewest_21 : decode cX5_fewest 21 = .ok (.ireturn, 1) := by decide +kernel
theorem dX5_fewest_22 : decode cX5_fewest 22 = .ok (.aload_n 0, 1) := by decide +kernel
theorem dX5_fewest_23 : decode cX5_fewest 23 = .ok (.iload_n 1, 1) := by decide +kernel
theorem dX5_fewest_24 : decode cX5_fewest 24 = .ok (.invokevirtual 200, 3) := by decide +kernel
theorem dX5_fewest_27 : decode cX5_fewest 27 = .ok (.ifCond .eq 10, 3) := by decide +kernel
theorem dX5_fewest_30 : decode cX5_fewest 30 = .ok (.aload_n 0, 1) := by decide +kernel
theorem dX5_fewest_31 : decode cX5_fewest 31 = .ok (.ldc 134, 2) := by decide +kernel
theorem dX5_fewest_33 : decode cX5_fewest 33 = .ok (.invokevirtual 74, 3) := by decide +kernel
theorem dX5_fewest_36 : decode cX5_fewest 36 = .ok (.ireturn, 1) := by decide +kernel
theorem dX5_fewest_37 : decode cX5_fewest 37 = .ok (.aload_n 0, 1) := by decide +kernel
theorem dX5_fewest_38 : decode cX5_fewest 38 = .ok (.invokevirtual 184, 3) := by decide +kernel
theorem dX5_fewest_41 : decode cX5_fewest 41 = .ok (.iconst 0, 1) := by decide +kernel
theorem dX5_fewest_42 : decode cX5_fewest 42 = .ok (.istore_n 3, 1) := by decide +kernel
theorem dX5_fewest_43 : decode cX5_fewest 43 = .ok (.iload_n 3, 1) := by decide +kernel
theorem dX5_fewest_44 : decode cX5_fewest 44 = .ok (.bipush 40, 2) := by decide +kernel
theorem dX5_fewest_46 : decode cX5_fewest 46 = .ok (.if_icmp .gt 25, 3) := by decide +kernel
theorem dX5_fewest_49 : decode cX5_fewest 49 = .ok (.aload_n 0, 1) := by decide +kernel
theorem dX5_fewest_50 : decode cX5_fewest 50 = .ok (.iload_n 1, 1) := by decide +kernel
theorem dX5_fewest_51 : decode cX5_fewest 51 = .ok (.iconst 4, 1) := by decide +kernel
theorem dX5_fewest_52 : decode cX5_fewest 52 = .ok (.invokevirtual 78, 3) := by decide +kernel
theorem dX5_fewest_55 : decode cX5_fewest 55 = .ok (.iload_n 2, 1) := by decide +kernel
theorem dX5_fewest_56 : decode cX5_fewest 56 = .ok (.if_icmp .eq 15, 3) := by decide +kernel
theorem dX5_fewest_59 : decode cX5_fewest 59 = .ok (.aload_n 0, 1) := by decide +kernel
theorem dX5_fewest_60 : decode cX5_fewest 60 = .ok (.iload_n 1, 1) := by decide +kernel
theorem dX5_fewest_61 : decode cX5_fewest 61 = .ok (.iconst 1, 1) := by decide +kernel
theorem dX5_fewest_62 : decode cX5_fewest 62 = .ok (.invokevirtual 143, 3) := by decide +kernel
theorem dX5_fewest_65 : decode cX5_fewest 65 = .ok (.iinc 3 1, 3) := by decide +kernel
theorem dX5_fewest_68 : decode cX5_fewest 68 = .ok (.goto (-25), 3) := by decide +kernel
theorem dX5_fewest_71 : decode cX5_fewest 71 = .ok (.aload_n 0, 1) := by decide +kernel
theorem dX5_fewest_72 : decode cX5_fewest 72 = .ok (.iload_n 3, 1) := by decide +kernel
theorem dX5_fewest_73 : decode cX5_fewest 73 = .ok (.invokevirtual 187, 3) := by decide +kernel
theorem dX5_fewest_76 : decode cX5_fewest 76 = .ok (.istore 4, 2) := by decide +kernel
theorem dX5_fewest_78 : decode cX5_fewest 78 = .ok (.iload 4, 2) := by decide +kernel
theorem dX5_fewest_80 : decode cX5_fewest 80 = .ok (.bipush 40, 2) := by decide +kernel
theorem dX5_fewest_82 : decode cX5_fewest 82 = .ok (.if_icmp .le 12, 3) := by decide +kernel
theorem dX5_fewest_85 : decode cX5_fewest 85 = .ok (.aload_n 0, 1) := by decide +kernel
theorem dX5_fewest_86 : decode cX5_fewest 86 = .ok (.ldc 196, 2) := by decide +kernel
theorem dX5_fewest_88 : decode cX5_fewest 88 = .ok (.invokevirtual 74, 3) := by decide +kernel
theorem dX5_fewest_91 : decode cX5_fewest 91 = .ok (.goto 5, 3) := by decide +kernel
theorem dX5_fewest_94 : decode cX5_fewest 94 = .ok (.iload 4, 2) := by decide +kernel
theorem dX5_fewest_96 : decode cX5_fewest 96 = .ok (.ireturn, 1) := by decide +kernel
theorem dX5_least_0 : decode cX5_least 0 = .ok (.aload_n 0, 1) := by decide +kernel
theorem dX5_least_1 : decode cX5_least 1 = .ok (.iload_n 1, 1) := by decide +kernel
theorem dX5_least_2 : decode cX5_least 2 = .ok (.invokevirtual 106, 3) := by decide +kernel
theorem dX5_least_5 : decode cX5_least 5 = .ok (.ifCond .ne 10, 3) := by decide +kernel
theorem dX5_least_8 : decode cX5_least 8 = .ok (.aload_n 0, 1) := by decide +kernel
theorem dX5_least_9 : decode cX5_least 9 = .ok (.ldc 45, 2) := by decide +kernel
theorem dX5_least_11 : decode cX5_least 11 = .ok (.invokevirtual 74, 3) := by decide +kernel
theorem dX5_least_14 : decode cX5_least 14 = .ok (.ireturn, 1) := by decide +kernel
theorem dX5_least_15 : decode cX5_least 15 = .ok (.aload_n 0, 1) := by decide +kernel
theorem dX5_least_16 : decode cX5_least 16 = .ok (.iload_n 1, 1) := by decide +kernel
theorem dX5_least_17 : decode cX5_least 17 = .ok (.invokevirtual 200, 3) := by decide +kernel
theorem dX5_least_20 : decode cX5_least 20 = .ok (.ifCond .eq 10, 3) := by decide +kernel
theorem dX5_least_23 : decode cX5_least 23 = .ok (.aload_n 0, 1) := by decide +kernel
theorem dX5_least_24 : decode cX5_least 24 = .ok (.ldc 134, 2) := by decide +kernel
theorem dX5_least_26 : decode cX5_least 26 = .ok (.invokevirtual 74, 3) := by decide +kernel
theorem dX5_least_29 : decode cX5_least 29 = .ok (.ireturn, 1) := by decide +kernel
theorem dX5_least_30 : decode cX5_least 30 = .ok (.aload_n 0, 1) := by decide +kernel
theorem dX5_least_31 : decode cX5_least 31 = .ok (.iload_n 1, 1) := by decide +kernel
theorem dX5_least_32 : decode cX5_least 32 = .ok (.iconst 4, 1) := by decide +kernel
theorem dX5_least_33 : decode cX5_least 33 = .ok (.invokevirtual 78, 3) := by decide +kernel
theorem dX5_least_36 : decode cX5_least 36 = .ok (.istore_n 2, 1) := by decide +kernel
theorem dX5_least_37 : decode cX5_least 37 = .ok (.aload_n 0, 1) := by decide +kernel
theorem dX5_least_38 : decode cX5_least 38 = .ok (.invokevirtual 184, 3) := by decide +kernel
theorem dX5_least_41 : decode cX5_least 41 = .ok (.iconst (-1), 1) := by decide +kernel
theorem dX5_least_42 : decode cX5_least 42 = .ok (.istore_n 3, 1) := by decide +kernel
theorem dX5_least_43 : decode cX5_least 43 = .ok (.iconst 1, 1) := by decide +kernel
theorem dX5_least_44 : decode cX5_least 44 = .ok (.istore 4, 2) := by decide +kernel
theorem dX5_least_46 : decode cX5_least 46 = .ok (.iload 4, 2) := by decide +kernel
theorem dX5_least_48 : decode cX5_least 48 = .ok (.bipush 20, 2) := by decide +kernel
theorem dX5_least_50 : decode cX5_least 50 = .ok (.if_icmp .gt 41, 3) := by decide +kernel
theorem dX5_least_53 : decode cX5_least 53 = .ok (.iload_n 3, 1) := by decide +kernel
theorem dX5_least_54 : decode cX5_least 54 = .ok (.ifCond .ge 37, 3) := by decide +kernel
theorem dX5_least_57 : decode cX5_least 57 = .ok (.aload_n 0, 1) := by decide +kernel
theorem dX5_least_58 : decode cX5_least 58 = .ok (.iload_n 1, 1) := by decide +kernel
theorem dX5_least_59 : decode cX5_least 59 = .ok (.iload 4, 2) := by decide +kernel
theorem dX5_least_61 : decode cX5_least 61 = .ok (.invokevirtual 143, 3) := by decide +kernel
theorem dX5_least_64 : decode cX5_least 64 = .ok (.aload_n 0, 1) := by decide +kernel
theorem dX5_least_65 : decode cX5_least 65 = .ok (.aload_n 0, 1) := by decide +kernel
theorem dX5_least_66 : decode cX5_least 66 = .ok (.iload_n 1, 1) := by decide +kernel
theorem dX5_least_67 : decode cX5_least 67 = .ok (.iconst 4, 1) := by decide +kernel
theorem dX5_least_68 : decode cX5_least 68 = .ok (.invokevirtual 78, 3) := by decide +kernel
theorem dX5_least_71 : decode cX5_least 71 = .ok (.iload_n 2, 1) := by decide +kernel
theorem dX5_least_72 : decode cX5_least 72 = .ok (.if_icmp .eq 8, 3) := by decide +kernel
theorem dX5_least_75 : decode cX5_least 75 = .ok (.iload 4, 2) := by decide +kernel
theorem dX5_least_77 : decode cX5_least 77 = .ok (.goto 4, 3) := by decide +kernel
theorem dX5_least_80 : decode cX5_least 80 = .ok (.iconst (-1), 1) := by decide +kernel
theorem dX5_least_81 : decode cX5_least 81 = .ok (.invokevirtual 187, 3) := by decide +kernel
theorem dX5_least_84 : decode cX5_least 84 = .ok (.istore_n 3, 1) := by decide +kernel
theorem dX5_least_85 : decode cX5_least 85 = .ok (.iinc 4 1, 3) := by decide +kernel
theorem dX5_least_88 : decode cX5_least 88 = .ok (.goto (-42), 3) := by decide +kernel
theorem dX5_least_91 : decode cX5_least 91 = .ok (.iload_n 3, 1) := by decide +kernel
theorem dX5_least_92 : decode cX5_least 92 = .ok (.ifCond .ge 12, 3) := by decide +kernel
theorem dX5_least_95 : decode cX5_least 95 = .ok (.aload_n 0, 1) := by decide +kernel
theorem dX5_least_96 : decode cX5_least 96 = .ok (.ldc 196, 2) := by decide +kernel
theorem dX5_least_98 : decode cX5_least 98 = .ok (.invokevirtual 74, 3) := by decide +kernel
theorem dX5_least_101 : decode cX5_least 101 = .ok (.goto 4, 3) := by decide +kernel
theorem dX5_least_104 : decode cX5_least 104 = .ok (.iload_n 3, 1) := by decide +kernel
theorem dX5_least_105 : decode cX5_least 105 = .ok (.ireturn, 1) := by decide +kernel
theorem dX5_isSoon_0 : decode cX5_isSoon 0 = .ok (.iload_n 0, 1) := by decide +kernel
theorem dX5_isSoon_1 : decode cX5_isSoon 1 = .ok (.i2l, 1) := by decide +kernel
theorem dX5_isSoon_2 : decode cX5_isSoon 2 = .ok (.lconst 0, 1) := by decide +kernel
theorem dX5_isSoon_3 : decode cX5_isSoon 3 = .ok (.ldc2_w 141, 3) := by decide +kernel
theorem dX5_isSoon_6 : decode cX5_isSoon 6 = .ok (.invokestatic 48, 3) := by decide +kernel
theorem dX5_isSoon_9 : decode cX5_isSoon 9 = .ok (.ireturn, 1) := by decide +kernel
theorem dX5_best_0 : decode cX5_best 0 = .ok (.iload_n 1, 1) := by decide +kernel
theorem dX5_best_1 : decode cX5_best 1 = .ok (.invokestatic 203, 3) := by decide +kernel
theorem dX5_best_4 : decode cX5_best 4 = .ok (.ifCond .ne 10, 3) := by decide +kernel
theorem dX5_best_7 : decode cX5_best 7 = .ok (.aload_n 0, 1) := by decide +kernel
theorem dX5_best_8 : decode cX5_best 8 = .ok (.ldc 45, 2) := by decide +kernel
theorem dX5_best_10 : decode cX5_best 10 = .ok (.invokevirtual 74, 3) := by decide +kernel
theorem dX5_best_13 : decode cX5_best 13 = .ok (.ireturn, 1) := by decide +kernel
theorem dX5_best_14 : decode cX5_best 14 = .ok (.iconst 0, 1) := by decide +kernel
theorem dX5_best_15 : decode cX5_best 15 = .ok (.istore_n 2, 1) := by decide +kernel
theorem dX5_best_16 : decode cX5_best 16 = .ok (.iconst (-1), 1) := by decide +kernel
theorem dX5_best_17 : decode cX5_best 17 = .ok (.istore_n 3, 1) := by decide +kernel
theorem dX5_best_18 : decode cX5_best 18 = .ok (.aload_n 0, 1) := by decide +kernel
theorem dX5_best_19 : decode cX5_best 19 = .ok (.invokevirtual 184, 3) := by decide +kernel
theorem dX5_best_22 : decode cX5_best 22 = .ok (.iconst 0, 1) := by decide +kernel
theorem dX5_best_23 : decode cX5_best 23 = .ok (.istore 4, 2) := by decide +kernel
theorem dX5_best_25 : decode cX5_best 25 = .ok (.iload 4, 2) := by decide +kernel
theorem dX5_best_27 : decode cX5_best 27 = .ok (.bipush 16, 2) := by decide +kernel
theorem dX5_best_29 : decode cX5_best 29 = .ok (.if_icmp .ge 58, 3) := by decide +kernel
theorem dX5_best_32 : decode cX5_best 32 = .ok (.aload_n 0, 1) := by decide +kernel
theorem dX5_best_33 : decode cX5_best 33 = .ok (.iload 4, 2) := by decide +kernel
theorem dX5_best_35 : decode cX5_best 35 = .ok (.invokevirtual 147, 3) := by decide +kernel
theorem dX5_best_38 : decode cX5_best 38 = .ok (.istore 5, 2) := by decide +kernel
theorem dX5_best_40 : decode cX5_best 40 = .ok (.aload_n 0, 1) := by decide +kernel
theorem dX5_best_41 : decode cX5_best 41 = .ok (.iload_n 1, 1) := by decide +kernel
theorem dX5_best_42 : decode cX5_best 42 = .ok (.invokevirtual 168, 3) := by decide +kernel
theorem dX5_best_45 : decode cX5_best 45 = .ok (.aload_n 0, 1) := by decide +kernel
theorem dX5_best_46 : decode cX5_best 46 = .ok (.aload_n 0, 1) := by decide +kernel
theorem dX5_best_47 : decode cX5_best 47 = .ok (.invokevirtual 175, 3) := by decide +kernel
theorem dX5_best_50 : decode cX5_best 50 = .ok (.invokevirtual 187, 3) := by decide +kernel
theorem dX5_best_53 : decode cX5_best 53 = .ok (.istore 6, 2) := by decide +kernel
theorem dX5_best_55 : decode cX5_best 55 = .ok (.iload 6, 2) := by decide +kernel
theorem dX5_best_57 : decode cX5_best 57 = .ok (.iload_n 3, 1) := by decide +kernel
theorem dX5_best_58 : decode cX5_best 58 = .ok (.if_icmp .le 8, 3) := by decide +kernel
theorem dX5_best_61 : decode cX5_best 61 = .ok (.iload 4, 2) := by decide +kernel
theorem dX5_best_63 : decode cX5_best 63 = .ok (.goto 4, 3) := by decide +kernel
theorem dX5_best_66 : decode cX5_best 66 = .ok (.iload_n 2, 1) := by decide +kernel
theorem dX5_best_67 : decode cX5_best 67 = .ok (.istore_n 2, 1) := by decide +kernel
theorem dX5_best_68 : decode cX5_best 68 = .ok (.iload 6, 2) := by decide +kernel
theorem dX5_best_70 : decode cX5_best 70 = .ok (.iload_n 3, 1) := by decide +kernel
theorem dX5_best_71 : decode cX5_best 71 = .ok (.if_icmp .le 8, 3) := by decide +kernel
theorem dX5_best_74 : decode cX5_best 74 = .ok (.iload 6, 2) := by decide +kernel
theorem dX5_best_76 : decode cX5_best 76 = .ok (.goto 4, 3) := by decide +kernel
theorem dX5_best_79 : decode cX5_best 79 = .ok (.iload_n 3, 1) := by decide +kernel
theorem dX5_best_80 : decode cX5_best 80 = .ok (.istore_n 3, 1) := by decide +kernel
theorem dX5_best_81 : decode cX5_best 81 = .ok (.iinc 4 1, 3) := by decide +kernel
theorem dX5_best_84 : decode cX5_best 84 = .ok (.goto (-59), 3) := by decide +kernel
theorem dX5_best_87 : decode cX5_best 87 = .ok (.iload_n 2, 1) := by decide +kernel
theorem dX5_best_88 : decode cX5_best 88 = .ok (.ireturn, 1) := by decide +kernel
theorem dX5_lean_0 : decode cX5_lean 0 = .ok (.iload_n 1, 1) := by decide +kernel
theorem dX5_lean_1 : decode cX5_lean 1 = .ok (.invokestatic 67, 3) := by decide +kernel
theorem dX5_lean_4 : decode cX5_lean 4 = .ok (.ifCond .eq 11, 3) := by decide +kernel
theorem dX5_lean_7 : decode cX5_lean 7 = .ok (.aload_n 0, 1) := by decide +kernel
theorem dX5_lean_8 : decode cX5_lean 8 = .ok (.iload_n 2, 1) := by decide +kernel
theorem dX5_lean_9 : decode cX5_lean 9 = .ok (.invokevirtual 106, 3) := by decide +kernel
theorem dX5_lean_12 : decode cX5_lean 12 = .ok (.ifCond .ne 10, 3) := by decide +kernel
theorem dX5_lean_15 : decode cX5_lean 15 = .ok (.aload_n 0, 1) := by decide +kernel
theorem dX5_lean_16 : decode cX5_lean 16 = .ok (.ldc 45, 2) := by decide +kernel
theorem dX5_lean_18 : decode cX5_lean 18 = .ok (.invokevirtual 74, 3) := by decide +kernel
theorem dX5_lean_21 : decode cX5_lean 21 = .ok (.ireturn, 1) := by decide +kernel
theorem dX5_lean_22 : decode cX5_lean 22 = .ok (.aload_n 0, 1) := by decide +kernel
theorem dX5_lean_23 : decode cX5_lean 23 = .ok (.iload_n 1, 1) := by decide +kernel
theorem dX5_lean_24 : decode cX5_lean 24 = .ok (.invokevirtual 125, 3) := by decide +kernel
theorem dX5_lean_27 : decode cX5_lean 27 = .ok (.ifCond .eq 11, 3) := by decide +kernel
theorem dX5_lean_30 : decode cX5_lean 30 = .ok (.aload_n 0, 1) := by decide +kernel
theorem dX5_lean_31 : decode cX5_lean 31 = .ok (.iload_n 2, 1) := by decide +kernel
theorem dX5_lean_32 : decode cX5_lean 32 = .ok (.invokevirtual 109, 3) := by decide +kernel
theorem dX5_lean_35 : decode cX5_lean 35 = .ok (.goto 9, 3) := by decide +kernel
theorem dX5_lean_38 : decode cX5_lean 38 = .ok (.aload_n 0, 1) := by decide +kernel
theorem dX5_lean_39 : decode cX5_lean 39 = .ok (.ldc 196, 2) := by decide +kernel
theorem dX5_lean_41 : decode cX5_lean 41 = .ok (.invokevirtual 74, 3) := by decide +kernel
theorem dX5_lean_44 : decode cX5_lean 44 = .ok (.ireturn, 1) := by decide +kernel
theorem dX5_leanFor_0 : decode cX5_leanFor 0 = .ok (.iload_n 1, 1) := by decide +kernel
theorem dX5_leanFor_1 : decode cX5_leanFor 1 = .ok (.invokestatic 67, 3) := by decide +kernel
theorem dX5_leanFor_4 : decode cX5_leanFor 4 = .ok (.ifCond .eq 10, 3) := by decide +kernel
theorem dX5_leanFor_7 : decode cX5_leanFor 7 = .ok (.iload_n 2, 1) := by decide +kernel
theorem dX5_leanFor_8 : decode cX5_leanFor 8 = .ok (.invokestatic 203, 3) := by decide +kernel
theorem dX5_leanFor_11 : decode cX5_leanFor 11 = .ok (.ifCond .ne 10, 3) := by decide +kernel
theorem dX5_leanFor_14 : decode cX5_leanFor 14 = .ok (.aload_n 0, 1) := by decide +kernel
theorem dX5_leanFor_15 : decode cX5_leanFor 15 = .ok (.ldc 45, 2) := by decide +kernel
theorem dX5_leanFor_17 : decode cX5_leanFor 17 = .ok (.invokevirtual 74, 3) := by decide +kernel
theorem dX5_leanFor_20 : decode cX5_leanFor 20 = .ok (.ireturn, 1) := by decide +kernel
theorem dX5_leanFor_21 : decode cX5_leanFor 21 = .ok (.aload_n 0, 1) := by decide +kernel
theorem dX5_leanFor_22 : decode cX5_leanFor 22 = .ok (.iload_n 1, 1) := by decide +kernel
theorem dX5_leanFor_23 : decode cX5_leanFor 23 = .ok (.iconst 2, 1) := by decide +kernel
theorem dX5_leanFor_24 : decode cX5_leanFor 24 = .ok (.invokevirtual 84, 3) := by decide +kernel
theorem dX5_leanFor_27 : decode cX5_leanFor 27 = .ok (.istore_n 3, 1) := by decide +kernel
theorem dX5_leanFor_28 : decode cX5_leanFor 28 = .ok (.iconst 0, 1) := by decide +kernel
theorem dX5_leanFor_29 : decode cX5_leanFor 29 = .ok (.istore 4, 2) := by decide +kernel
theorem dX5_leanFor_31 : decode cX5_leanFor 31 = .ok (.iconst (-1), 1) := by decide +kernel
theorem dX5_leanFor_32 : decode cX5_leanFor 32 = .ok (.istore 5, 2) := by decide +kernel
theorem dX5_leanFor_34 : decode cX5_leanFor 34 = .ok (.iconst 0, 1) := by decide +kernel
theorem dX5_leanFor_35 : decode cX5_leanFor 35 = .ok (.istore 6, 2) := by decide +kernel
theorem dX5_leanFor_37 : decode cX5_leanFor 37 = .ok (.iload 6, 2) := by decide +kernel
theorem dX5_leanFor_39 : decode cX5_leanFor 39 = .ok (.bipush 9, 2) := by decide +kernel
theorem dX5_leanFor_41 : decode cX5_leanFor 41 = .ok (.if_icmp .gt 65, 3) := by decide +kernel
theorem dX5_leanFor_44 : decode cX5_leanFor 44 = .ok (.aload_n 0, 1) := by decide +kernel
theorem dX5_leanFor_45 : decode cX5_leanFor 45 = .ok (.getfield 7, 3) := by decide +kernel
theorem dX5_leanFor_48 : decode cX5_leanFor 48 = .ok (.iload_n 1, 1) := by decide +kernel
theorem dX5_leanFor_49 : decode cX5_leanFor 49 = .ok (.iconst 2, 1) := by decide +kernel
theorem dX5_leanFor_50 : decode cX5_leanFor 50 = .ok (.invokestatic 41, 3) := by decide +kernel
theorem dX5_leanFor_53 : decode cX5_leanFor 53 = .ok (.iload 6, 2) := by decide +kernel
theorem dX5_leanFor_55 : decode cX5_leanFor 55 = .ok (.iastore, 1) := by decide +kernel
theorem dX5_leanFor_56 : decode cX5_leanFor 56 = .ok (.aload_n 0, 1) := by decide +kernel
theorem dX5_leanFor_57 : decode cX5_leanFor 57 = .ok (.iload_n 1, 1) := by decide +kernel
theorem dX5_leanFor_58 : decode cX5_leanFor 58 = .ok (.iconst 1, 1) := by decide +kernel
theorem dX5_leanFor_59 : decode cX5_leanFor 59 = .ok (.invokestatic 41, 3) := by decide +kernel
theorem dX5_leanFor_62 : decode cX5_leanFor 62 = .ok (.iload_n 2, 1) := by decide +kernel
theorem dX5_leanFor_63 : decode cX5_leanFor 63 = .ok (.invokevirtual 193, 3) := by decide +kernel
theorem dX5_leanFor_66 : decode cX5_leanFor 66 = .ok (.istore 7, 2) := by decide +kernel
theorem dX5_leanFor_68 : decode cX5_leanFor 68 = .ok (.iload 7, 2) := by decide +kernel
theorem dX5_leanFor_70 : decode cX5_leanFor 70 = .ok (.iload 5, 2) := by decide +kernel
theorem dX5_leanFor_72 : decode cX5_leanFor 72 = .ok (.if_icmp .le 8, 3) := by decide +kernel
theorem dX5_leanFor_75 : decode cX5_leanFor 75 = .ok (.iload 6, 2) := by decide +kernel
theorem dX5_leanFor_77 : decode cX5_leanFor 77 = .ok (.goto 5, 3) := by decide +kernel
theorem dX5_leanFor_80 : decode cX5_leanFor 80 = .ok (.iload 4, 2) := by decide +kernel
theorem dX5_leanFor_82 : decode cX5_leanFor 82 = .ok (.istore 4, 2) := by decide +kernel
theorem dX5_leanFor_84 : decode cX5_leanFor 84 = .ok (.iload 7, 2) := by decide +kernel
theorem dX5_leanFor_86 : decode cX5_leanFor 86 = .ok (.iload 5, 2) := by decide +kernel
theorem dX5_leanFor_88 : decode cX5_leanFor 88 = .ok (.if_icmp .le 8, 3) := by decide +kernel
theorem dX5_leanFor_91 : decode cX5_leanFor 91 = .ok (.iload 7, 2) := by decide +kernel
theorem dX5_leanFor_93 : decode cX5_leanFor 93 = .ok (.goto 5, 3) := by decide +kernel
theorem dX5_leanFor_96 : decode cX5_leanFor 96 = .ok (.iload 5, 2) := by decide +kernel
theorem dX5_leanFor_98 : decode cX5_leanFor 98 = .ok (.istore 5, 2) := by decide +kernel
theorem dX5_leanFor_100 : decode cX5_leanFor 100 = .ok (.iinc 6 1, 3) := by decide +kernel
theorem dX5_leanFor_103 : decode cX5_leanFor 103 = .ok (.goto (-66), 3) := by decide +kernel
theorem dX5_leanFor_106 : decode cX5_leanFor 106 = .ok (.aload_n 0, 1) := by decide +kernel
theorem dX5_leanFor_107 : decode cX5_leanFor 107 = .ok (.getfield 7, 3) := by decide +kernel
theorem dX5_leanFor_110 : decode cX5_leanFor 110 = .ok (.iload_n 1, 1) := by decide +kernel
theorem dX5_leanFor_111 : decode cX5_leanFor 111 = .ok (.iconst 2, 1) := by decide +kernel
theorem dX5_leanFor_112 : decode cX5_leanFor 112 = .ok (.invokestatic 41, 3) := by decide +kernel
theorem dX5_leanFor_115 : decode cX5_leanFor 115 = .ok (.iload_n 3, 1) := by decide +kernel
theorem dX5_leanFor_116 : decode cX5_leanFor 116 = .ok (.iastore, 1) := by decide +kernel
theorem dX5_leanFor_117 : decode cX5_leanFor 117 = .ok (.iload 4, 2) := by decide +kernel
theorem dX5_leanFor_119 : decode cX5_leanFor 119 = .ok (.ireturn, 1) := by decide +kernel
theorem dX5_kind_0 : decode cX5_kind 0 = .ok (.aload_n 0, 1) := by decide +kernel
theorem dX5_kind_1 : decode cX5_kind 1 = .ok (.iload_n 1, 1) := by decide +kernel
theorem dX5_kind_2 : decode cX5_kind 2 = .ok (.invokevirtual 106, 3) := by decide +kernel
theorem dX5_kind_5 : decode cX5_kind 5 = .ok (.ifCond .ne 10, 3) := by decide +kernel
theorem dX5_kind_8 : decode cX5_kind 8 = .ok (.aload_n 0, 1) := by decide +kernel
theorem dX5_kind_9 : decode cX5_kind 9 = .ok (.ldc 45, 2) := by decide +kernel
theorem dX5_kind_11 : decode cX5_kind 11 = .ok (.invokevirtual 74, 3) := by decide +kernel
theorem dX5_kind_14 : decode cX5_kind 14 = .ok (.ireturn, 1) := by decide +kernel
theorem dX5_kind_15 : decode cX5_kind 15 = .ok (.aload_n 0, 1) := by decide +kernel
theorem dX5_kind_16 : decode cX5_kind 16 = .ok (.iload_n 1, 1) := by decide +kernel
theorem dX5_kind_17 : decode cX5_kind 17 = .ok (.iconst 0, 1) := by decide +kernel
theorem dX5_kind_18 : decode cX5_kind 18 = .ok (.invokevirtual 78, 3) := by decide +kernel
theorem dX5_kind_21 : decode cX5_kind 21 = .ok (.istore_n 2, 1) := by decide +kernel
theorem dX5_kind_22 : decode cX5_kind 22 = .ok (.iconst 0, 1) := by decide +kernel
theorem dX5_kind_23 : decode cX5_kind 23 = .ok (.istore_n 3, 1) := by decide +kernel
theorem dX5_kind_24 : decode cX5_kind 24 = .ok (.sipush 999, 3) := by decide +kernel
theorem dX5_kind_27 : decode cX5_kind 27 = .ok (.istore 4, 2) := by decide +kernel
theorem dX5_kind_29 : decode cX5_kind 29 = .ok (.iconst 0, 1) := by decide +kernel
theorem dX5_kind_30 : decode cX5_kind 30 = .ok (.istore 5, 2) := by decide +kernel
theorem dX5_kind_32 : decode cX5_kind 32 = .ok (.iload 5, 2) := by decide +kernel
theorem dX5_kind_34 : decode cX5_kind 34 = .ok (.iconst 5, 1) := by decide +kernel
theorem dX5_kind_35 : decode cX5_kind 35 = .ok (.if_icmp .gt 58, 3) := by decide +kernel
theorem dX5_kind_38 : decode cX5_kind 38 = .ok (.aload_n 0, 1) := by decide +kernel
theorem dX5_kind_39 : decode cX5_kind 39 = .ok (.getfield 7, 3) := by decide +kernel
theorem dX5_kind_42 : decode cX5_kind 42 = .ok (.iload_n 1, 1) := by decide +kernel
theorem dX5_kind_43 : decode cX5_kind 43 = .ok (.iconst 0, 1) := by decide +kernel
theorem dX5_kind_44 : decode cX5_kind 44 = .ok (.invokestatic 56, 3) := by decide +kernel
theorem dX5_kind_47 : decode cX5_kind 47 = .ok (.iload 5, 2) := by decide +kernel
theorem dX5_kind_49 : decode cX5_kind 49 = .ok (.iastore, 1) := by decide +kernel
theorem dX5_kind_50 : decode cX5_kind 50 = .ok (.aload_n 0, 1) := by decide +kernel
theorem dX5_kind_51 : decode cX5_kind 51 = .ok (.iload_n 1, 1) := by decide +kernel
theorem dX5_kind_52 : decode cX5_kind 52 = .ok (.invokevirtual 81, 3) := by decide +kernel
theorem dX5_kind_55 : decode cX5_kind 55 = .ok (.istore 6, 2) := by decide +kernel
theorem dX5_kind_57 : decode cX5_kind 57 = .ok (.iload 6, 2) := by decide +kernel
theorem dX5_kind_59 : decode cX5_kind 59 = .ok (.iload 4, 2) := by decide +kernel
theorem dX5_kind_61 : decode cX5_kind 61 = .ok (.if_icmp .ge 8, 3) := by decide +kernel
theorem dX5_kind_64 : decode cX5_kind 64 = .ok (.iload 5, 2) := by decide +kernel
theorem dX5_kind_66 : decode cX5_kind 66 = .ok (.goto 4, 3) := by decide +kernel
theorem dX5_kind_69 : decode cX5_kind 69 = .ok (.iload_n 3, 1) := by decide +kernel
theorem dX5_kind_70 : decode cX5_kind 70 = .ok (.istore_n 3, 1) := by decide +kernel
theorem dX5_kind_71 : decode cX5_kind 71 = .ok (.iload 6, 2) := by decide +kernel
theorem dX5_kind_73 : decode cX5_kind 73 = .ok (.iload 4, 2) := by decide +kernel
theorem dX5_kind_75 : decode cX5_kind 75 = .ok (.if_icmp .ge 8, 3) := by decide +kernel
theorem dX5_kind_78 : decode cX5_kind 78 = .ok (.iload 6, 2) := by decide +kernel
theorem dX5_kind_80 : decode cX5_kind 80 = .ok (.goto 5, 3) := by decide +kernel
theorem dX5_kind_83 : decode cX5_kind 83 = .ok (.iload 4, 2) := by decide +kernel
theorem dX5_kind_85 : decode cX5_kind 85 = .ok (.istore 4, 2) := by decide +kernel
theorem dX5_kind_87 : decode cX5_kind 87 = .ok (.iinc 5 1, 3) := by decide +kernel
theorem dX5_kind_90 : decode cX5_kind 90 = .ok (.goto (-58), 3) := by decide +kernel
theorem dX5_kind_93 : decode cX5_kind 93 = .ok (.aload_n 0, 1) := by decide +kernel
theorem dX5_kind_94 : decode cX5_kind 94 = .ok (.getfield 7, 3) := by decide +kernel
theorem dX5_kind_97 : decode cX5_kind 97 = .ok (.iload_n 1, 1) := by decide +kernel
theorem dX5_kind_98 : decode cX5_kind 98 = .ok (.iconst 0, 1) := by decide +kernel
theorem dX5_kind_99 : decode cX5_kind 99 = .ok (.invokestatic 56, 3) := by decide +kernel
theorem dX5_kind_102 : decode cX5_kind 102 = .ok (.iload_n 2, 1) := by decide +kernel
theorem dX5_kind_103 : decode cX5_kind 103 = .ok (.iastore, 1) := by decide +kernel
theorem dX5_kind_104 : decode cX5_kind 104 = .ok (.iload_n 3, 1) := by decide +kernel
theorem dX5_kind_105 : decode cX5_kind 105 = .ok (.ireturn, 1) := by decide +kernel
theorem dX5_host_0 : decode cX5_host 0 = .ok (.aload_n 0, 1) := by decide +kernel
theorem dX5_host_1 : decode cX5_host 1 = .ok (.iload_n 1, 1) := by decide +kernel
theorem dX5_host_2 : decode cX5_host 2 = .ok (.invokevirtual 106, 3) := by decide +kernel
theorem dX5_host_5 : decode cX5_host 5 = .ok (.ifCond .ne 10, 3) := by decide +kernel
theorem dX5_host_8 : decode cX5_host 8 = .ok (.aload_n 0, 1) := by decide +kernel
theorem dX5_host_9 : decode cX5_host 9 = .ok (.ldc 45, 2) := by decide +kernel
theorem dX5_host_11 : decode cX5_host 11 = .ok (.invokevirtual 74, 3) := by decide +kernel
theorem dX5_host_14 : decode cX5_host 14 = .ok (.ireturn, 1) := by decide +kernel
theorem dX5_host_15 : decode cX5_host 15 = .ok (.aload_n 0, 1) := by decide +kernel
theorem dX5_host_16 : decode cX5_host 16 = .ok (.aload_n 0, 1) := by decide +kernel
theorem dX5_host_17 : decode cX5_host 17 = .ok (.iload_n 1, 1) := by decide +kernel
theorem dX5_host_18 : decode cX5_host 18 = .ok (.iconst 1, 1) := by decide +kernel
theorem dX5_host_19 : decode cX5_host 19 = .ok (.invokevirtual 78, 3) := by decide +kernel
theorem dX5_host_22 : decode cX5_host 22 = .ok (.invokevirtual 131, 3) := by decide +kernel
theorem dX5_host_25 : decode cX5_host 25 = .ok (.ifCond .eq 7, 3) := by decide +kernel
theorem dX5_host_28 : decode cX5_host 28 = .ok (.iconst (-1), 1) := by decide +kernel
theorem dX5_host_29 : decode cX5_host 29 = .ok (.goto 8, 3) := by decide +kernel
theorem dX5_host_32 : decode cX5_host 32 = .ok (.aload_n 0, 1) := by decide +kernel
theorem dX5_host_33 : decode cX5_host 33 = .ok (.iload_n 1, 1) := by decide +kernel
theorem dX5_host_34 : decode cX5_host 34 = .ok (.invokevirtual 135, 3) := by decide +kernel
theorem dX5_host_37 : decode cX5_host 37 = .ok (.istore_n 2, 1) := by decide +kernel
theorem dX5_host_38 : decode cX5_host 38 = .ok (.iload_n 2, 1) := by decide +kernel
theorem dX5_host_39 : decode cX5_host 39 = .ok (.iconst (-1), 1) := by decide +kernel
theorem dX5_host_40 : decode cX5_host 40 = .ok (.if_icmp .ne 12, 3) := by decide +kernel
theorem dX5_host_43 : decode cX5_host 43 = .ok (.aload_n 0, 1) := by decide +kernel
theorem dX5_host_44 : decode cX5_host 44 = .ok (.ldc 196, 2) := by decide +kernel
theorem dX5_host_46 : decode cX5_host 46 = .ok (.invokevirtual 74, 3) := by decide +kernel
theorem dX5_host_49 : decode cX5_host 49 = .ok (.goto 4, 3) := by decide +kernel
theorem dX5_host_52 : decode cX5_host 52 = .ok (.iload_n 2, 1) := by decide +kernel
theorem dX5_host_53 : decode cX5_host 53 = .ok (.ireturn, 1) := by decide +kernel
theorem dX5_beds_0 : decode cX5_beds 0 = .ok (.iload_n 1, 1) := by decide +kernel
theorem dX5_beds_1 : decode cX5_beds 1 = .ok (.invokestatic 67, 3) := by decide +kernel
theorem dX5_beds_4 : decode cX5_beds 4 = .ok (.ifCond .eq 10, 3) := by decide +kernel
theorem dX5_beds_7 : decode cX5_beds 7 = .ok (.iload_n 2, 1) := by decide +kernel
theorem dX5_beds_8 : decode cX5_beds 8 = .ok (.invokestatic 203, 3) := by decide +kernel
theorem dX5_beds_11 : decode cX5_beds 11 = .ok (.ifCond .ne 10, 3) := by decide +kernel
theorem dX5_beds_14 : decode cX5_beds 14 = .ok (.aload_n 0, 1) := by decide +kernel
theorem dX5_beds_15 : decode cX5_beds 15 = .ok (.ldc 45, 2) := by decide +kernel
theorem dX5_beds_17 : decode cX5_beds 17 = .ok (.invokevirtual 74, 3) := by decide +kernel
theorem dX5_beds_20 : decode cX5_beds 20 = .ok (.ireturn, 1) := by decide +kernel
theorem dX5_beds_21 : decode cX5_beds 21 = .ok (.aload_n 0, 1) := by decide +kernel
theorem dX5_beds_22 : decode cX5_beds 22 = .ok (.iload_n 1, 1) := by decide +kernel
theorem dX5_beds_23 : decode cX5_beds 23 = .ok (.iconst 0, 1) := by decide +kernel
theorem dX5_beds_24 : decode cX5_beds 24 = .ok (.invokevirtual 84, 3) := by decide +kernel
theorem dX5_beds_27 : decode cX5_beds 27 = .ok (.istore_n 3, 1) := by decide +kernel
theorem dX5_beds_28 : decode cX5_beds 28 = .ok (.iconst (-1), 1) := by decide +kernel
theorem dX5_beds_29 : decode cX5_beds 29 = .ok (.istore 4, 2) := by decide +kernel
theorem dX5_beds_31 : decode cX5_beds 31 = .ok (.iconst 0, 1) := by decide +kernel
theorem dX5_beds_32 : decode cX5_beds 32 = .ok (.istore 5, 2) := by decide +kernel
theorem dX5_beds_34 : decode cX5_beds 34 = .ok (.iload 5, 2) := by decide +kernel
theorem dX5_beds_36 : decode cX5_beds 36 = .ok (.iconst 3, 1) := by decide +kernel
theorem dX5_beds_37 : decode cX5_beds 37 = .ok (.if_icmp .gt 55, 3) := by decide +kernel
theorem dX5_beds_40 : decode cX5_beds 40 = .ok (.iload 4, 2) := by decide +kernel
theorem dX5_beds_42 : decode cX5_beds 42 = .ok (.ifCond .ge 50, 3) := by decide +kernel
theorem dX5_beds_45 : decode cX5_beds 45 = .ok (.aload_n 0, 1) := by decide +kernel
theorem dX5_beds_46 : decode cX5_beds 46 = .ok (.getfield 7, 3) := by decide +kernel
theorem dX5_beds_49 : decode cX5_beds 49 = .ok (.iload_n 1, 1) := by decide +kernel
theorem dX5_beds_50 : decode cX5_beds 50 = .ok (.iconst 0, 1) := by decide +kernel
theorem dX5_beds_51 : decode cX5_beds 51 = .ok (.invokestatic 41, 3) := by decide +kernel
theorem dX5_beds_54 : decode cX5_beds 54 = .ok (.iload 5, 2) := by decide +kernel
theorem dX5_beds_56 : decode cX5_beds 56 = .ok (.iastore, 1) := by decide +kernel
theorem dX5_beds_57 : decode cX5_beds 57 = .ok (.aload_n 0, 1) := by decide +kernel
theorem dX5_beds_58 : decode cX5_beds 58 = .ok (.invokevirtual 184, 3) := by decide +kernel
theorem dX5_beds_61 : decode cX5_beds 61 = .ok (.aload_n 0, 1) := by decide +kernel
theorem dX5_beds_62 : decode cX5_beds 62 = .ok (.iload_n 2, 1) := by decide +kernel
theorem dX5_beds_63 : decode cX5_beds 63 = .ok (.invokevirtual 168, 3) := by decide +kernel
theorem dX5_beds_66 : decode cX5_beds 66 = .ok (.aload_n 0, 1) := by decide +kernel
theorem dX5_beds_67 : decode cX5_beds 67 = .ok (.aload_n 0, 1) := by decide +kernel
theorem dX5_beds_68 : decode cX5_beds 68 = .ok (.iconst (-1), 1) := by decide +kernel
theorem dX5_beds_69 : decode cX5_beds 69 = .ok (.invokevirtual 87, 3) := by decide +kernel
theorem dX5_beds_72 : decode cX5_beds 72 = .ok (.ifCond .ne 8, 3) := by decide +kernel
theorem dX5_beds_75 : decode cX5_beds 75 = .ok (.iload 5, 2) := by decide +kernel
theorem dX5_beds_77 : decode cX5_beds 77 = .ok (.goto 4, 3) := by decide +kernel
theorem dX5_beds_80 : decode cX5_beds 80 = .ok (.iconst (-1), 1) := by decide +kernel
theorem dX5_beds_81 : decode cX5_beds 81 = .ok (.invokevirtual 187, 3) := by decide +kernel
theorem dX5_beds_84 : decode cX5_beds 84 = .ok (.istore 4, 2) := by decide +kernel
theorem dX5_beds_86 : decode cX5_beds 86 = .ok (.iinc 5 1, 3) := by decide +kernel
theorem dX5_beds_89 : decode cX5_beds 89 = .ok (.goto (-55), 3) := by decide +kernel
theorem dX5_beds_92 : decode cX5_beds 92 = .ok (.aload_n 0, 1) := by decide +kernel
theorem dX5_beds_93 : decode cX5_beds 93 = .ok (.getfield 7, 3) := by decide +kernel
theorem dX5_beds_96 : decode cX5_beds 96 = .ok (.iload_n 1, 1) := by decide +kernel
theorem dX5_beds_97 : decode cX5_beds 97 = .ok (.iconst 0, 1) := by decide +kernel
theorem dX5_beds_98 : decode cX5_beds 98 = .ok (.invokestatic 41, 3) := by decide +kernel
theorem dX5_beds_101 : decode cX5_beds 101 = .ok (.iload_n 3, 1) := by decide +kernel
theorem dX5_beds_102 : decode cX5_beds 102 = .ok (.iastore, 1) := by decide +kernel
theorem dX5_beds_103 : decode cX5_beds 103 = .ok (.iload 4, 2) := by decide +kernel
theorem dX5_beds_105 : decode cX5_beds 105 = .ok (.ifCond .ge 12, 3) := by decide +kernel
theorem dX5_beds_108 : decode cX5_beds 108 = .ok (.aload_n 0, 1) := by decide +kernel
theorem dX5_beds_109 : decode cX5_beds 109 = .ok (.ldc 196, 2) := by decide +kernel
theorem dX5_beds_111 : decode cX5_beds 111 = .ok (.invokevirtual 74, 3) := by decide +kernel
theorem dX5_beds_114 : decode cX5_beds 114 = .ok (.goto 5, 3) := by decide +kernel
theorem dX5_beds_117 : decode cX5_beds 117 = .ok (.iload 4, 2) := by decide +kernel
theorem dX5_beds_119 : decode cX5_beds 119 = .ok (.ireturn, 1) := by decide +kernel
theorem dX5_feed_0 : decode cX5_feed 0 = .ok (.iload_n 2, 1) := by decide +kernel
theorem dX5_feed_1 : decode cX5_feed 1 = .ok (.i2l, 1) := by decide +kernel
theorem dX5_feed_2 : decode cX5_feed 2 = .ok (.lconst 1, 1) := by decide +kernel
theorem dX5_feed_3 : decode cX5_feed 3 = .ok (.ldc2_w 206, 3) := by decide +kernel
theorem dX5_feed_6 : decode cX5_feed 6 = .ok (.invokestatic 48, 3) := by decide +kernel
theorem dX5_feed_9 : decode cX5_feed 9 = .ok (.ifCond .ne 10, 3) := by decide +kernel
theorem dX5_feed_12 : decode cX5_feed 12 = .ok (.aload_n 0, 1) := by decide +kernel
theorem dX5_feed_13 : decode cX5_feed 13 = .ok (.ldc 45, 2) := by decide +kernel
theorem dX5_feed_15 : decode cX5_feed 15 = .ok (.invokevirtual 74, 3) := by decide +kernel
theorem dX5_feed_18 : decode cX5_feed 18 = .ok (.ireturn, 1) := by decide +kernel
theorem dX5_feed_19 : decode cX5_feed 19 = .ok (.aload_n 0, 1) := by decide +kernel
theorem dX5_feed_20 : decode cX5_feed 20 = .ok (.getfield 208, 3) := by decide +kernel
theorem dX5_feed_23 : decode cX5_feed 23 = .ok (.iload_n 2, 1) := by decide +kernel
theorem dX5_feed_24 : decode cX5_feed 24 = .ok (.iadd, 1) := by decide +kernel
theorem dX5_feed_25 : decode cX5_feed 25 = .ok (.bipush 120, 2) := by decide +kernel
theorem dX5_feed_27 : decode cX5_feed 27 = .ok (.if_icmp .le 10, 3) := by decide +kernel
theorem dX5_feed_30 : decode cX5_feed 30 = .ok (.aload_n 0, 1) := by decide +kernel
theorem dX5_feed_31 : decode cX5_feed 31 = .ok (.ldc 102, 2) := by decide +kernel
theorem dX5_feed_33 : decode cX5_feed 33 = .ok (.invokevirtual 74, 3) := by decide +kernel
theorem dX5_feed_36 : decode cX5_feed 36 = .ok (.ireturn, 1) := by decide +kernel
theorem dX5_feed_37 : decode cX5_feed 37 = .ok (.iload_n 2, 1) := by decide +kernel
theorem dX5_feed_38 : decode cX5_feed 38 = .ok (.iconst 1, 1) := by decide +kernel
theorem dX5_feed_39 : decode cX5_feed 39 = .ok (.isub, 1) := by decide +kernel
theorem dX5_feed_40 : decode cX5_feed 40 = .ok (.istore_n 3, 1) := by decide +kernel
theorem dX5_feed_41 : decode cX5_feed 41 = .ok (.iload_n 3, 1) := by decide +kernel
theorem dX5_feed_42 : decode cX5_feed 42 = .ok (.ifCond .lt 38, 3) := by decide +kernel
theorem dX5_feed_45 : decode cX5_feed 45 = .ok (.aload_n 0, 1) := by decide +kernel
theorem dX5_feed_46 : decode cX5_feed 46 = .ok (.getfield 25, 3) := by decide +kernel
theorem dX5_feed_49 : decode cX5_feed 49 = .ok (.aload_n 0, 1) := by decide +kernel
theorem dX5_feed_50 : decode cX5_feed 50 = .ok (.getfield 208, 3) := by decide +kernel
theorem dX5_feed_53 : decode cX5_feed 53 = .ok (.iload_n 1, 1) := by decide +kernel
theorem dX5_feed_54 : decode cX5_feed 54 = .ok (.bipush 8, 2) := by decide +kernel
theorem dX5_feed_56 : decode cX5_feed 56 = .ok (.iload_n 3, 1) := by decide +kernel
theorem dX5_feed_57 : decode cX5_feed 57 = .ok (.imul, 1) := by decide +kernel
theorem dX5_feed_58 : decode cX5_feed 58 = .ok (.ishr, 1) := by decide +kernel
theorem dX5_feed_59 : decode cX5_feed 59 = .ok (.sipush 255, 3) := by decide +kernel
theorem dX5_feed_62 : decode cX5_feed 62 = .ok (.iand, 1) := by decide +kernel
theorem dX5_feed_63 : decode cX5_feed 63 = .ok (.iastore, 1) := by decide +kernel
theorem dX5_feed_64 : decode cX5_feed 64 = .ok (.aload_n 0, 1) := by decide +kernel
theorem dX5_feed_65 : decode cX5_feed 65 = .ok (.dup, 1) := by decide +kernel
theorem dX5_feed_66 : decode cX5_feed 66 = .ok (.getfield 208, 3) := by decide +kernel
theorem dX5_feed_69 : decode cX5_feed 69 = .ok (.iconst 1, 1) := by decide +kernel
theorem dX5_feed_70 : decode cX5_feed 70 = .ok (.iadd, 1) := by decide +kernel
theorem dX5_feed_71 : decode cX5_feed 71 = .ok (.putfield 208, 3) := by decide +kernel
theorem dX5_feed_74 : decode cX5_feed 74 = .ok (.iinc 3 (-1), 3) := by decide +kernel
theorem dX5_feed_77 : decode cX5_feed 77 = .ok (.goto (-36), 3) := by decide +kernel
theorem dX5_feed_80 : decode cX5_feed 80 = .ok (.aload_n 0, 1) := by decide +kernel
theorem dX5_feed_81 : decode cX5_feed 81 = .ok (.getfield 208, 3) := by decide +kernel
theorem dX5_feed_84 : decode cX5_feed 84 = .ok (.ireturn, 1) := by decide +kernel
theorem dX5_wipe_0 : decode cX5_wipe 0 = .ok (.aload_n 0, 1) := by decide +kernel
theorem dX5_wipe_1 : decode cX5_wipe 1 = .ok (.getfield 208, 3) := by decide +kernel
theorem dX5_wipe_4 : decode cX5_wipe 4 = .ok (.istore_n 1, 1) := by decide +kernel
theorem dX5_wipe_5 : decode cX5_wipe 5 = .ok (.aload_n 0, 1) := by decide +kernel
theorem dX5_wipe_6 : decode cX5_wipe 6 = .ok (.iconst 0, 1) := by decide +kernel
theorem dX5_wipe_7 : decode cX5_wipe 7 = .ok (.putfield 208, 3) := by decide +kernel
theorem dX5_wipe_10 : decode cX5_wipe 10 = .ok (.iload_n 1, 1) := by decide +kernel
theorem dX5_wipe_11 : decode cX5_wipe 11 = .ok (.ireturn, 1) := by decide +kernel
theorem dX5_byteAt_0 : decode cX5_byteAt 0 = .ok (.iload_n 1, 1) := by decide +kernel
theorem dX5_byteAt_1 : decode cX5_byteAt 1 = .ok (.aload_n 0, 1) := by decide +kernel
theorem dX5_byteAt_2 : decode cX5_byteAt 2 = .ok (.getfield 208, 3) := by decide +kernel
theorem dX5_byteAt_5 : decode cX5_byteAt 5 = .ok (.if_icmp .ge 12, 3) := by decide +kernel
theorem dX5_byteAt_8 : decode cX5_byteAt 8 = .ok (.aload_n 0, 1) := by decide +kernel
theorem dX5_byteAt_9 : decode cX5_byteAt 9 = .ok (.getfield 25, 3) := by decide +kernel
theorem dX5_byteAt_12 : decode cX5_byteAt 12 = .ok (.iload_n 1, 1) := by decide +kernel
theorem dX5_byteAt_13 : decode cX5_byteAt 13 = .ok (.iaload, 1) := by decide +kernel
theorem dX5_byteAt_14 : decode cX5_byteAt 14 = .ok (.goto 4, 3) := by decide +kernel
theorem dX5_byteAt_17 : decode cX5_byteAt 17 = .ok (.iconst (-1), 1) := by decide +kernel
theorem dX5_byteAt_18 : decode cX5_byteAt 18 = .ok (.ireturn, 1) := by decide +kernel
theorem dX5_isLetter_0 : decode cX5_isLetter 0 = .ok (.iload_n 0, 1) := by decide +kernel
theorem dX5_isLetter_1 : decode cX5_isLetter 1 = .ok (.i2l, 1) := by decide +kernel
theorem dX5_isLetter_2 : decode cX5_isLetter 2 = .ok (.ldc2_w 212, 3) := by decide +kernel
theorem dX5_isLetter_5 : decode cX5_isLetter 5 = .ok (.ldc2_w 214, 3) := by decide +kernel
theorem dX5_isLetter_8 : decode cX5_isLetter 8 = .ok (.invokestatic 48, 3) := by decide +kernel
theorem dX5_isLetter_11 : decode cX5_isLetter 11 = .ok (.ireturn, 1) := by decide +kernel
theorem dX5_isDigit_0 : decode cX5_isDigit 0 = .ok (.iload_n 0, 1) := by decide +kernel
theorem dX5_isDigit_1 : decode cX5_isDigit 1 = .ok (.i2l, 1) := by decide +kernel
theorem dX5_isDigit_2 : decode cX5_isDigit 2 = .ok (.ldc2_w 216, 3) := by decide +kernel
theorem dX5_isDigit_5 : decode cX5_isDigit 5 = .ok (.ldc2_w 218, 3) := by decide +kernel
theorem dX5_isDigit_8 : decode cX5_isDigit 8 = .ok (.invokestatic 48, 3) := by decide +kernel
theorem dX5_isDigit_11 : decode cX5_isDigit 11 = .ok (.ireturn, 1) := by decide +kernel
theorem dX5_token_0 : decode cX5_token 0 = .ok (.aload_n 0, 1) := by decide +kernel
theorem dX5_token_1 : decode cX5_token 1 = .ok (.aload_n 0, 1) := by decide +kernel
theorem dX5_token_2 : decode cX5_token 2 = .ok (.getfield 220, 3) := by decide +kernel
theorem dX5_token_5 : decode cX5_token 5 = .ok (.putfield 223, 3) := by decide +kernel
theorem dX5_token_8 : decode cX5_token 8 = .ok (.aload_n 0, 1) := by decide +kernel
theorem dX5_token_9 : decode cX5_token 9 = .ok (.aload_n 0, 1) := by decide +kernel
theorem dX5_token_10 : decode cX5_token 10 = .ok (.getfield 223, 3) := by decide +kernel
theorem dX5_token_13 : decode cX5_token 13 = .ok (.invokevirtual 226, 3) := by decide +kernel
theorem dX5_token_16 : decode cX5_token 16 = .ok (.bipush 32, 2) := by decide +kernel
theorem dX5_token_18 : decode cX5_token 18 = .ok (.if_icmp .ne 16, 3) := by decide +kernel
theorem dX5_token_21 : decode cX5_token 21 = .ok (.aload_n 0, 1) := by decide +kernel
theorem dX5_token_22 : decode cX5_token 22 = .ok (.dup, 1) := by decide +kernel
theorem dX5_token_23 : decode cX5_token 23 = .ok (.getfield 223, 3) := by decide +kernel
theorem dX5_token_26 : decode cX5_token 26 = .ok (.iconst 1, 1) := by decide +kernel
theorem dX5_token_27 : decode cX5_token 27 = .ok (.iadd, 1) := by decide +kernel
theorem dX5_token_28 : decode cX5_token 28 = .ok (.putfield 223, 3) := by decide +kernel
theorem dX5_token_31 : decode cX5_token 31 = .ok (.goto (-23), 3) := by decide +kernel
theorem dX5_token_34 : decode cX5_token 34 = .ok (.aload_n 0, 1) := by decide +kernel
theorem dX5_token_35 : decode cX5_token 35 = .ok (.aload_n 0, 1) := by decide +kernel
theorem dX5_token_36 : decode cX5_token 36 = .ok (.getfield 223, 3) := by decide +kernel
theorem dX5_token_39 : decode cX5_token 39 = .ok (.invokevirtual 226, 3) := by decide +kernel
theorem dX5_token_42 : decode cX5_token 42 = .ok (.invokestatic 229, 3) := by decide +kernel
theorem dX5_token_45 : decode cX5_token 45 = .ok (.istore_n 1, 1) := by decide +kernel
theorem dX5_token_46 : decode cX5_token 46 = .ok (.aload_n 0, 1) := by decide +kernel
theorem dX5_token_47 : decode cX5_token 47 = .ok (.aload_n 0, 1) := by decide +kernel
theorem dX5_token_48 : decode cX5_token 48 = .ok (.getfield 223, 3) := by decide +kernel
theorem dX5_token_51 : decode cX5_token 51 = .ok (.invokevirtual 226, 3) := by decide +kernel
theorem dX5_token_54 : decode cX5_token 54 = .ok (.invokestatic 232, 3) := by decide +kernel
theorem dX5_token_57 : decode cX5_token 57 = .ok (.istore_n 2, 1) := by decide +kernel
theorem dX5_token_58 : decode cX5_token 58 = .ok (.aload_n 0, 1) := by decide +kernel
theorem dX5_token_59 : decode cX5_token 59 = .ok (.aload_n 0, 1) := by decide +kernel
theorem dX5_token_60 : decode cX5_token 60 = .ok (.getfield 223, 3) := by decide +kernel
theorem dX5_token_63 : decode cX5_token 63 = .ok (.aload_n 0, 1) := by decide +kernel
theorem dX5_token_64 : decode cX5_token 64 = .ok (.getfield 208, 3) := by decide +kernel
theorem dX5_token_67 : decode cX5_token 67 = .ok (.if_icmp .ge 12, 3) := by decide +kernel
theorem dX5_token_70 : decode cX5_token 70 = .ok (.aload_n 0, 1) := by decide +kernel
theorem dX5_token_71 : decode cX5_token 71 = .ok (.getfield 223, 3) := by decide +kernel
theorem dX5_token_74 : decode cX5_token 74 = .ok (.iconst 1, 1) := by decide +kernel
theorem dX5_token_75 : decode cX5_token 75 = .ok (.iadd, 1) := by decide +kernel
theorem dX5_token_76 : decode cX5_token 76 = .ok (.goto 7, 3) := by decide +kernel
theorem dX5_token_79 : decode cX5_token 79 = .ok (.aload_n 0, 1) := by decide +kernel
theorem dX5_token_80 : decode cX5_token 80 = .ok (.getfield 223, 3) := by decide +kernel
theorem dX5_token_83 : decode cX5_token 83 = .ok (.putfield 220, 3) := by decide +kernel
theorem dX5_token_86 : decode cX5_token 86 = .ok (.iload_n 1, 1) := by decide +kernel
theorem dX5_token_87 : decode cX5_token 87 = .ok (.ifCond .eq 17, 3) := by decide +kernel
theorem dX5_token_90 : decode cX5_token 90 = .ok (.aload_n 0, 1) := by decide +kernel
theorem dX5_token_91 : decode cX5_token 91 = .ok (.aload_n 0, 1) := by decide +kernel
theorem dX5_token_92 : decode cX5_token 92 = .ok (.getfield 220, 3) := by decide +kernel
theorem dX5_token_95 : decode cX5_token 95 = .ok (.invokevirtual 226, 3) := by decide +kernel
theorem dX5_token_98 : decode cX5_token 98 = .ok (.invokestatic 229, 3) := by decide +kernel
theorem dX5_token_101 : decode cX5_token 101 = .ok (.ifCond .ne 21, 3) := by decide +kernel
theorem dX5_token_104 : decode cX5_token 104 = .ok (.iload_n 2, 1) := by decide +kernel
theorem dX5_token_105 : decode cX5_token 105 = .ok (.ifCond .eq 30, 3) := by decide +kernel
theorem dX5_token_108 : decode cX5_token 108 = .ok (.aload_n 0, 1) := by decide +kernel
theorem dX5_token_109 : decode cX5_token 109 = .ok (.aload_n 0, 1) := by decide +kernel
theorem dX5_token_110 : decode cX5_token 110 = .ok (.getfield 220, 3) := by decide +kernel
theorem dX5_token_113 : decode cX5_token 113 = .ok (.invokevirtual 226, 3) := by decide +kernel
theorem dX5_token_116 : decode cX5_token 116 = .ok (.invokestatic 232, 3) := by decide +kernel
theorem dX5_token_119 : decode cX5_token 119 = .ok (.ifCond .eq 16, 3) := by decide +kernel
theorem dX5_token_122 : decode cX5_token 122 = .ok (.aload_n 0, 1) := by decide +kernel
theorem dX5_token_123 : decode cX5_token 123 = .ok (.dup, 1) := by decide +kernel
theorem dX5_token_124 : decode cX5_token 124 = .ok (.getfield 220, 3) := by decide +kernel
theorem dX5_token_127 : decode cX5_token 127 = .ok (.iconst 1, 1) := by decide +kernel
theorem dX5_token_128 : decode cX5_token 128 = .ok (.iadd, 1) := by decide +kernel
theorem dX5_token_129 : decode cX5_token 129 = .ok (.putfield 220, 3) := by decide +kernel
theorem dX5_token_132 : decode cX5_token 132 = .ok (.goto (-46), 3) := by decide +kernel
theorem dX5_token_135 : decode cX5_token 135 = .ok (.return_, 1) := by decide +kernel
theorem dX5_must_0 : decode cX5_must 0 = .ok (.aload_n 0, 1) := by decide +kernel
theorem dX5_must_1 : decode cX5_must 1 = .ok (.aload_n 0, 1) := by decide +kernel
theorem dX5_must_2 : decode cX5_must 2 = .ok (.getfield 235, 3) := by decide +kernel
theorem dX5_must_5 : decode cX5_must 5 = .ok (.ifCond .ne 7, 3) := by decide +kernel
theorem dX5_must_8 : decode cX5_must 8 = .ok (.iload_n 1, 1) := by decide +kernel
theorem dX5_must_9 : decode cX5_must 9 = .ok (.ifCond .ne 7, 3) := by decide +kernel
theorem dX5_must_12 : decode cX5_must 12 = .ok (.iconst 1, 1) := by decide +kernel
theorem dX5_must_13 : decode cX5_must 13 = .ok (.goto 4, 3) := by decide +kernel
theorem dX5_must_16 : decode cX5_must 16 = .ok (.iconst 0, 1) := by decide +kernel
theorem dX5_must_17 : decode cX5_must 17 = .ok (.putfield 235, 3) := by decide +kernel
theorem dX5_must_20 : decode cX5_must 20 = .ok (.aload_n 0, 1) := by decide +kernel
theorem dX5_must_21 : decode cX5_must 21 = .ok (.getfield 235, 3) := by decide +kernel
theorem dX5_must_24 : decode cX5_must 24 = .ok (.ifCond .ne 7, 3) := by decide +kernel
theorem dX5_must_27 : decode cX5_must 27 = .ok (.aload_n 0, 1) := by decide +kernel
theorem dX5_must_28 : decode cX5_must 28 = .ok (.invokevirtual 239, 3) := by decide +kernel
theorem dX5_must_31 : decode cX5_must 31 = .ok (.return_, 1) := by decide +kernel
theorem dX5_word_0 : decode cX5_word 0 = .ok (.lconst 0, 1) := by decide +kernel
theorem dX5_word_1 : decode cX5_word 1 = .ok (.lstore_n 1, 1) := by decide +kernel
theorem dX5_word_2 : decode cX5_word 2 = .ok (.aload_n 0, 1) := by decide +kernel
theorem dX5_word_3 : decode cX5_word 3 = .ok (.getfield 223, 3) := by decide +kernel
theorem dX5_word_6 : decode cX5_word 6 = .ok (.istore_n 3, 1) := by decide +kernel
theorem dX5_word_7 : decode cX5_word 7 = .ok (.iload_n 3, 1) := by decide +kernel
theorem dX5_word_8 : decode cX5_word 8 = .ok (.aload_n 0, 1) := by decide +kernel
theorem dX5_word_9 : decode cX5_word 9 = .ok (.getfield 220, 3) := by decide +kernel
theorem dX5_word_12 : decode cX5_word 12 = .ok (.if_icmp .ge 38, 3) := by decide +kernel
theorem dX5_word_15 : decode cX5_word 15 = .ok (.lload_n 1, 1) := by decide +kernel
theorem dX5_word_16 : decode cX5_word 16 = .ok (.ldc2_w 242, 3) := by decide +kernel
theorem dX5_word_19 : decode cX5_word 19 = .ok (.lcmp, 1) := by decide +kernel
theorem dX5_word_20 : decode cX5_word 20 = .ok (.ifCond .le 7, 3) := by decide +kernel
theorem dX5_word_23 : decode cX5_word 23 = .ok (.lload_n 1, 1) := by decide +kernel
theorem dX5_word_24 : decode cX5_word 24 = .ok (.goto 19, 3) := by decide +kernel
theorem dX5_word_27 : decode cX5_word 27 = .ok (.ldc2_w 244, 3) := by decide +kernel
theorem dX5_word_30 : decode cX5_word 30 = .ok (.lload_n 1, 1) := by decide +kernel
theorem dX5_word_31 : decode cX5_word 31 = .ok (.lmul, 1) := by decide +kernel
theorem dX5_word_32 : decode cX5_word 32 = .ok (.aload_n 0, 1) := by decide +kernel
theorem dX5_word_33 : decode cX5_word 33 = .ok (.getfield 25, 3) := by decide +kernel
theorem dX5_word_36 : decode cX5_word 36 = .ok (.iload_n 3, 1) := by decide +kernel
theorem dX5_word_37 : decode cX5_word 37 = .ok (.iaload, 1) := by decide +kernel
theorem dX5_word_38 : decode cX5_word 38 = .ok (.bipush 96, 2) := by decide +kernel
theorem dX5_word_40 : decode cX5_word 40 = .ok (.isub, 1) := by decide +kernel
theorem dX5_word_41 : decode cX5_word 41 = .ok (.i2l, 1) := by decide +kernel
theorem dX5_word_42 : decode cX5_word 42 = .ok (.ladd, 1) := by decide +kernel
theorem dX5_word_43 : decode cX5_word 43 = .ok (.lstore_n 1, 1) := by decide +kernel
theorem dX5_word_44 : decode cX5_word 44 = .ok (.iinc 3 1, 3) := by decide +kernel
theorem dX5_word_47 : decode cX5_word 47 = .ok (.goto (-40), 3) := by decide +kernel
theorem dX5_word_50 : decode cX5_word 50 = .ok (.aload_n 0, 1) := by decide +kernel
theorem dX5_word_51 : decode cX5_word 51 = .ok (.getfield 235, 3) := by decide +kernel
theorem dX5_word_54 : decode cX5_word 54 = .ok (.ifCond .ne 17, 3) := by decide +kernel
theorem dX5_word_57 : decode cX5_word 57 = .ok (.aload_n 0, 1) := by decide +kernel
theorem dX5_word_58 : decode cX5_word 58 = .ok (.aload_n 0, 1) := by decide +kernel
theorem dX5_word_59 : decode cX5_word 59 = .ok (.getfield 223, 3) := by decide +kernel
theorem dX5_word_62 : decode cX5_word 62 = .ok (.invokevirtual 226, 3) := by decide +kernel
theorem dX5_word_65 : decode cX5_word 65 = .ok (.invokestatic 229, 3) := by decide +kernel
theorem dX5_word_68 : decode cX5_word 68 = .ok (.ifCond .ne 7, 3) := by decide +kernel
theorem dX5_word_71 : decode cX5_word 71 = .ok (.lconst 0, 1) := by decide +kernel
theorem dX5_word_72 : decode cX5_word 72 = .ok (.goto 4, 3) := by decide +kernel
theorem dX5_word_75 : decode cX5_word 75 = .ok (.lload_n 1, 1) := by decide +kernel
theorem dX5_word_76 : decode cX5_word 76 = .ok (.lreturn, 1) := by decide +kernel
theorem dX5_number_0 : decode cX5_number 0 = .ok (.aload_n 0, 1) := by decide +kernel
theorem dX5_number_1 : decode cX5_number 1 = .ok (.getfield 235, 3) := by decide +kernel
theorem dX5_number_4 : decode cX5_number 4 = .ok (.ifCond .eq 4, 3) := by decide +kernel
theorem dX5_number_7 : decode cX5_number 7 = .ok (.return_, 1) := by decide +kernel
theorem dX5_number_8 : decode cX5_number 8 = .ok (.aload_n 0, 1) := by decide +kernel
theorem dX5_number_9 : decode cX5_number 9 = .ok (.aload_n 0, 1) := by decide +kernel
theorem dX5_number_10 : decode cX5_number 10 = .ok (.getfield 223, 3) := by decide +kernel
theorem dX5_number_13 : decode cX5_number 13 = .ok (.invokevirtual 226, 3) := by decide +kernel
theorem dX5_number_16 : decode cX5_number 16 = .ok (.invokestatic 232, 3) := by decide +kernel
theorem dX5_number_19 : decode cX5_number 19 = .ok (.istore_n 3, 1) := by decide +kernel
theorem dX5_number_20 : decode cX5_number 20 = .ok (.iconst 0, 1) := by decide +kernel
theorem dX5_number_21 : decode cX5_number 21 = .ok (.istore 4, 2) := by decide +kernel
theorem dX5_number_23 : decode cX5_number 23 = .ok (.aload_n 0, 1) := by decide +kernel
theorem dX5_number_24 : decode cX5_number 24 = .ok (.getfield 223, 3) := by decide +kernel
theorem dX5_number_27 : decode cX5_number 27 = .ok (.istore 5, 2) := by decide +kernel
theorem dX5_number_29 : decode cX5_number 29 = .ok (.iload 5, 2) := by decide +kernel
theorem dX5_number_31 : decode cX5_number 31 = .ok (.aload_n 0, 1) := by decide +kernel
theorem dX5_number_32 : decode cX5_number 32 = .ok (.getfield 220, 3) := by decide +kernel
theorem dX5_number_35 : decode cX5_number 35 = .ok (.if_icmp .ge 44, 3) := by decide +kernel
theorem dX5_number_38 : decode cX5_number 38 = .ok (.iload_n 3, 1) := by decide +kernel
theorem dX5_number_39 : decode cX5_number 39 = .ok (.ifCond .eq 40, 3) := by decide +kernel
theorem dX5_number_42 : decode cX5_number 42 = .ok (.iload 4, 2) := by decide +kernel
theorem dX5_number_44 : decode cX5_number 44 = .ok (.sipush 999, 3) := by decide +kernel
theorem dX5_number_47 : decode cX5_number 47 = .ok (.if_icmp .le 8, 3) := by decide +kernel
theorem dX5_number_50 : decode cX5_number 50 = .ok (.iload 4, 2) := by decide +kernel
theorem dX5_number_52 : decode cX5_number 52 = .ok (.goto 19, 3) := by decide +kernel
theorem dX5_number_55 : decode cX5_number 55 = .ok (.bipush 10, 2) := by decide +kernel
theorem dX5_number_57 : decode cX5_number 57 = .ok (.iload 4, 2) := by decide +kernel
theorem dX5_number_59 : decode cX5_number 59 = .ok (.imul, 1) := by decide +kernel
theorem dX5_number_60 : decode cX5_number 60 = .ok (.aload_n 0, 1) := by decide +kernel
theorem dX5_number_61 : decode cX5_number 61 = .ok (.getfield 25, 3) := by decide +kernel
theorem dX5_number_64 : decode cX5_number 64 = .ok (.iload 5, 2) := by decide +kernel
theorem dX5_number_66 : decode cX5_number 66 = .ok (.iaload, 1) := by decide +kernel
theorem dX5_number_67 : decode cX5_number 67 = .ok (.iadd, 1) := by decide +kernel
theorem dX5_number_68 : decode cX5_number 68 = .ok (.bipush 48, 2) := by decide +kernel
theorem dX5_number_70 : decode cX5_number 70 = .ok (.isub, 1) := by decide +kernel
theorem dX5_number_71 : decode cX5_number 71 = .ok (.istore 4, 2) := by decide +kernel
theorem dX5_number_73 : decode cX5_number 73 = .ok (.iinc 5 1, 3) := by decide +kernel
theorem dX5_number_76 : decode cX5_number 76 = .ok (.goto (-47), 3) := by decide +kernel
theorem dX5_number_79 : decode cX5_number 79 = .ok (.aload_n 0, 1) := by decide +kernel
theorem dX5_number_80 : decode cX5_number 80 = .ok (.iload 4, 2) := by decide +kernel
theorem dX5_number_82 : decode cX5_number 82 = .ok (.putfield 246, 3) := by decide +kernel
theorem dX5_number_85 : decode cX5_number 85 = .ok (.aload_n 0, 1) := by decide +kernel
theorem dX5_number_86 : decode cX5_number 86 = .ok (.iload_n 3, 1) := by decide +kernel
theorem dX5_number_87 : decode cX5_number 87 = .ok (.ifCond .eq 20, 3) := by decide +kernel
theorem dX5_number_90 : decode cX5_number 90 = .ok (.iload 4, 2) := by decide +kernel
theorem dX5_number_92 : decode cX5_number 92 = .ok (.i2l, 1) := by decide +kernel
theorem dX5_number_93 : decode cX5_number 93 = .ok (.iload_n 1, 1) := by decide +kernel
theorem dX5_number_94 : decode cX5_number 94 = .ok (.i2l, 1) := by decide +kernel
theorem dX5_number_95 : decode cX5_number 95 = .ok (.iload_n 2, 1) := by decide +kernel
theorem dX5_number_96 : decode cX5_number 96 = .ok (.i2l, 1) := by decide +kernel
theorem dX5_number_97 : decode cX5_number 97 = .ok (.invokestatic 48, 3) := by decide +kernel
theorem dX5_number_100 : decode cX5_number 100 = .ok (.ifCond .eq 7, 3) := by decide +kernel
theorem dX5_number_103 : decode cX5_number 103 = .ok (.iconst 1, 1) := by decide +kernel
theorem dX5_number_104 : decode cX5_number 104 = .ok (.goto 4, 3) := by decide +kernel
theorem dX5_number_107 : decode cX5_number 107 = .ok (.iconst 0, 1) := by decide +kernel
theorem dX5_number_108 : decode cX5_number 108 = .ok (.invokevirtual 249, 3) := by decide +kernel
theorem dX5_number_111 : decode cX5_number 111 = .ok (.return_, 1) := by decide +kernel
theorem dX5_kindHere_0 : decode cX5_kindHere 0 = .ok (.aload_n 0, 1) := by decide +kernel
theorem dX5_kindHere_1 : decode cX5_kindHere 1 = .ok (.invokevirtual 253, 3) := by decide +kernel
theorem dX5_kindHere_4 : decode cX5_kindHere 4 = .ok (.lstore_n 1, 1) := by decide +kernel
theorem dX5_kindHere_5 : decode cX5_kindHere 5 = .ok (.lload_n 1, 1) := by decide +kernel
theorem dX5_kindHere_6 : decode cX5_kindHere 6 = .ok (.ldc2_w 257, 3) := by decide +kernel
theorem dX5_kindHere_9 : decode cX5_kindHere 9 = .ok (.lcmp, 1) := by decide +kernel
theorem dX5_kindHere_10 : decode cX5_kindHere 10 = .ok (.ifCond .ne 7, 3) := by decide +kernel
theorem dX5_kindHere_13 : decode cX5_kindHere 13 = .ok (.iconst 0, 1) := by decide +kernel
theorem dX5_kindHere_14 : decode cX5_kindHere 14 = .ok (.goto 64, 3) := by decide +kernel
theorem dX5_kindHere_17 : decode cX5_kindHere 17 = .ok (.lload_n 1, 1) := by decide +kernel
theorem dX5_kindHere_18 : decode cX5_kindHere 18 = .ok (.ldc2_w 259, 3) := by decide +kernel
theorem dX5_kindHere_21 : decode cX5_kindHere 21 = .ok (.lcmp, 1) := by decide +kernel
theorem dX5_kindHere_22 : decode cX5_kindHere 22 = .ok (.ifCond .ne 7, 3) := by decide +kernel
theorem dX5_kindHere_25 : decode cX5_kindHere 25 = .ok (.iconst 1, 1) := by decide +kernel
theorem dX5_kindHere_26 : decode cX5_kindHere 26 = .ok (.goto 52, 3) := by decide +kernel
theorem dX5_kindHere_29 : decode cX5_kindHere 29 = .ok (.lload_n 1, 1) := by decide +kernel
theorem dX5_kindHere_30 : decode cX5_kindHere 30 = .ok (.ldc2_w 261, 3) := by decide +kernel
theorem dX5_kindHere_33 : decode cX5_kindHere 33 = .ok (.lcmp, 1) := by decide +kernel
theorem dX5_kindHere_34 : decode cX5_kindHere 34 = .ok (.ifCond .ne 7, 3) := by decide +kernel
theorem dX5_kindHere_37 : decode cX5_kindHere 37 = .ok (.iconst 2, 1) := by decide +kernel
theorem dX5_kindHere_38 : decode cX5_kindHere 38 = .ok (.goto 40, 3) := by decide +kernel
theorem dX5_kindHere_41 : decode cX5_kindHere 41 = .ok (.lload_n 1, 1) := by decide +kernel
theorem dX5_kindHere_42 : decode cX5_kindHere 42 = .ok (.ldc2_w 263, 3) := by decide +kernel
theorem dX5_kindHere_45 : decode cX5_kindHere 45 = .ok (.lcmp, 1) := by decide +kernel
theorem dX5_kindHere_46 : decode cX5_kindHere 46 = .ok (.ifCond .ne 7, 3) := by decide +kernel
theorem dX5_kindHere_49 : decode cX5_kindHere 49 = .ok (.iconst 3, 1) := by decide +kernel
theorem dX5_kindHere_50 : decode cX5_kindHere 50 = .ok (.goto 28, 3) := by decide +kernel
theorem dX5_kindHere_53 : decode cX5_kindHere 53 = .ok (.lload_n 1, 1) := by decide +kernel
theorem dX5_kindHere_54 : decode cX5_kindHere 54 = .ok (.ldc2_w 265, 3) := by decide +kernel
theorem dX5_kindHere_57 : decode cX5_kindHere 57 = .ok (.lcmp, 1) := by decide +kernel
theorem dX5_kindHere_58 : decode cX5_kindHere 58 = .ok (.ifCond .ne 7, 3) := by decide +kernel
theorem dX5_kindHere_61 : decode cX5_kindHere 61 = .ok (.iconst 4, 1) := by decide +kernel
theorem dX5_kindHere_62 : decode cX5_kindHere 62 = .ok (.goto 16, 3) := by decide +kernel
theorem dX5_kindHere_65 : decode cX5_kindHere 65 = .ok (.lload_n 1, 1) := by decide +kernel
theorem dX5_kindHere_66 : decode cX5_kindHere 66 = .ok (.ldc2_w 267, 3) := by decide +kernel
theorem dX5_kindHere_69 : decode cX5_kindHere 69 = .ok (.lcmp, 1) := by decide +kernel
theorem dX5_kindHere_70 : decode cX5_kindHere 70 = .ok (.ifCond .ne 7, 3) := by decide +kernel
theorem dX5_kindHere_73 : decode cX5_kindHere 73 = .ok (.iconst 5, 1) := by decide +kernel
theorem dX5_kindHere_74 : decode cX5_kindHere 74 = .ok (.goto 4, 3) := by decide +kernel
theorem dX5_kindHere_77 : decode cX5_kindHere 77 = .ok (.iconst (-1), 1) := by decide +kernel
theorem dX5_kindHere_78 : decode cX5_kindHere 78 = .ok (.ireturn, 1) := by decide +kernel
theorem dX5_partItem_0 : decode cX5_partItem 0 = .ok (.aload_n 0, 1) := by decide +kernel
theorem dX5_partItem_1 : decode cX5_partItem 1 = .ok (.invokevirtual 253, 3) := by decide +kernel
theorem dX5_partItem_4 : decode cX5_partItem 4 = .ok (.lload_n 1, 1) := by decide +kernel
theorem dX5_partItem_5 : decode cX5_partItem 5 = .ok (.lcmp, 1) := by decide +kernel
theorem dX5_partItem_6 : decode cX5_partItem 6 = .ok (.ifCond .ne 41, 3) := by decide +kernel
theorem dX5_partItem_9 : decode cX5_partItem 9 = .ok (.aload_n 0, 1) := by decide +kernel
theorem dX5_partItem_10 : decode cX5_partItem 10 = .ok (.iconst 1, 1) := by decide +kernel
theorem dX5_partItem_11 : decode cX5_partItem 11 = .ok (.invokevirtual 249, 3) := by decide +kernel
theorem dX5_partItem_14 : decode cX5_partItem 14 = .ok (.aload_n 0, 1) := by decide +kernel
theorem dX5_partItem_15 : decode cX5_partItem 15 = .ok (.iconst 0, 1) := by decide +kernel
theorem dX5_partItem_16 : decode cX5_partItem 16 = .ok (.iload 4, 2) := by decide +kernel
theorem dX5_partItem_18 : decode cX5_partItem 18 = .ok (.invokevirtual 269, 3) := by decide +kernel
theorem dX5_partItem_21 : decode cX5_partItem 21 = .ok (.aload_n 0, 1) := by decide +kernel
theorem dX5_partItem_22 : decode cX5_partItem 22 = .ok (.getfield 7, 3) := by decide +kernel
theorem dX5_partItem_25 : decode cX5_partItem 25 = .ok (.iload_n 3, 1) := by decide +kernel
theorem dX5_partItem_26 : decode cX5_partItem 26 = .ok (.aload_n 0, 1) := by decide +kernel
theorem dX5_partItem_27 : decode cX5_partItem 27 = .ok (.getfield 235, 3) := by decide +kernel
theorem dX5_partItem_30 : decode cX5_partItem 30 = .ok (.ifCond .eq 12, 3) := by decide +kernel
theorem dX5_partItem_33 : decode cX5_partItem 33 = .ok (.aload_n 0, 1) := by decide +kernel
theorem dX5_partItem_34 : decode cX5_partItem 34 = .ok (.getfield 7, 3) := by decide +kernel
theorem dX5_partItem_37 : decode cX5_partItem 37 = .ok (.iload_n 3, 1) := by decide +kernel
theorem dX5_partItem_38 : decode cX5_partItem 38 = .ok (.iaload, 1) := by decide +kernel
theorem dX5_partItem_39 : decode cX5_partItem 39 = .ok (.goto 7, 3) := by decide +kernel
theorem dX5_partItem_42 : decode cX5_partItem 42 = .ok (.aload_n 0, 1) := by decide +kernel
theorem dX5_partItem_43 : decode cX5_partItem 43 = .ok (.getfield 246, 3) := by decide +kernel
theorem dX5_partItem_46 : decode cX5_partItem 46 = .ok (.iastore, 1) := by decide +kernel
theorem dX5_partItem_47 : decode cX5_partItem 47 = .ok (.return_, 1) := by decide +kernel
theorem dX5_peeked_0 : decode cX5_peeked 0 = .ok (.aload_n 0, 1) := by decide +kernel
theorem dX5_peeked_1 : decode cX5_peeked 1 = .ok (.getfield 235, 3) := by decide +kernel
theorem dX5_peeked_4 : decode cX5_peeked 4 = .ok (.ifCond .ne 17, 3) := by decide +kernel
theorem dX5_peeked_7 : decode cX5_peeked 7 = .ok (.aload_n 0, 1) := by decide +kernel
theorem dX5_peeked_8 : decode cX5_peeked 8 = .ok (.aload_n 0, 1) := by decide +kernel
theorem dX5_peeked_9 : decode cX5_peeked 9 = .ok (.getfield 223, 3) := by decide +kernel
theorem dX5_peeked_12 : decode cX5_peeked 12 = .ok (.invokevirtual 226, 3) := by decide +kernel
theorem dX5_peeked_15 : decode cX5_peeked 15 = .ok (.invokestatic 232, 3) := by decide +kernel
theorem dX5_peeked_18 : decode cX5_peeked 18 = .ok (.ifCond .ne 5, 3) := by decide +kernel
theorem dX5_peeked_21 : decode cX5_peeked 21 = .ok (.iconst (-1), 1) := by decide +kernel
theorem dX5_peeked_22 : decode cX5_peeked 22 = .ok (.ireturn, 1) := by decide +kernel
theorem dX5_peeked_23 : decode cX5_peeked 23 = .ok (.iconst 0, 1) := by decide +kernel
theorem dX5_peeked_24 : decode cX5_peeked 24 = .ok (.istore_n 1, 1) := by decide +kernel
theorem dX5_peeked_25 : decode cX5_peeked 25 = .ok (.aload_n 0, 1) := by decide +kernel
theorem dX5_peeked_26 : decode cX5_peeked 26 = .ok (.getfield 223, 3) := by decide +kernel
theorem dX5_peeked_29 : decode cX5_peeked 29 = .ok (.istore_n 2, 1) := by decide +kernel
theorem dX5_peeked_30 : decode cX5_peeked 30 = .ok (.iload_n 2, 1) := by decide +kernel
theorem dX5_peeked_31 : decode cX5_peeked 31 = .ok (.aload_n 0, 1) := by decide +kernel
theorem dX5_peeked_32 : decode cX5_peeked 32 = .ok (.getfield 220, 3) := by decide +kernel
theorem dX5_peeked_35 : decode cX5_peeked 35 = .ok (.if_icmp .ge 36, 3) := by decide +kernel
theorem dX5_peeked_38 : decode cX5_peeked 38 = .ok (.iload_n 1, 1) := by decide +kernel
theorem dX5_peeked_39 : decode cX5_peeked 39 = .ok (.bipush 99, 2) := by decide +kernel
theorem dX5_peeked_41 : decode cX5_peeked 41 = .ok (.if_icmp .le 9, 3) := by decide +kernel
theorem dX5_peeked_44 : decode cX5_peeked 44 = .ok (.sipush 1000, 3) := by decide +kernel
theorem dX5_peeked_47 : decode cX5_peeked 47 = .ok (.goto 17, 3) := by decide +kernel
theorem dX5_peeked_50 : decode cX5_peeked 50 = .ok (.bipush 10, 2) := by decide +kernel
theorem dX5_peeked_52 : decode cX5_peeked 52 = .ok (.iload_n 1, 1) := by decide +kernel
theorem dX5_peeked_53 : decode cX5_peeked 53 = .ok (.imul, 1) := by decide +kernel
theorem dX5_peeked_54 : decode cX5_peeked 54 = .ok (.aload_n 0, 1) := by decide +kernel
theorem dX5_peeked_55 : decode cX5_peeked 55 = .ok (.getfield 25, 3) := by decide +kernel
theorem dX5_peeked_58 : decode cX5_peeked 58 = .ok (.iload_n 2, 1) := by decide +kernel
theorem dX5_peeked_59 : decode cX5_peeked 59 = .ok (.iaload, 1) := by decide +kernel
theorem dX5_peeked_60 : decode cX5_peeked 60 = .ok (.iadd, 1) := by decide +kernel
theorem dX5_peeked_61 : decode cX5_peeked 61 = .ok (.bipush 48, 2) := by decide +kernel
theorem dX5_peeked_63 : decode cX5_peeked 63 = .ok (.isub, 1) := by decide +kernel
theorem dX5_peeked_64 : decode cX5_peeked 64 = .ok (.istore_n 1, 1) := by decide +kernel
theorem dX5_peeked_65 : decode cX5_peeked 65 = .ok (.iinc 2 1, 3) := by decide +kernel
theorem dX5_peeked_68 : decode cX5_peeked 68 = .ok (.goto (-38), 3) := by decide +kernel
theorem dX5_peeked_71 : decode cX5_peeked 71 = .ok (.iload_n 1, 1) := by decide +kernel
theorem dX5_peeked_72 : decode cX5_peeked 72 = .ok (.ireturn, 1) := by decide +kernel
theorem dX5_rumourItem_0 : decode cX5_rumourItem 0 = .ok (.aload_n 0, 1) := by decide +kernel
theorem dX5_rumourItem_1 : decode cX5_rumourItem 1 = .ok (.aload_n 0, 1) := by decide +kernel
theorem dX5_rumourItem_2 : decode cX5_rumourItem 2 = .ok (.getfield 7, 3) := by decide +kernel
theorem dX5_rumourItem_5 : decode cX5_rumourItem 5 = .ok (.iconst 0, 1) := by decide +kernel
theorem dX5_rumourItem_6 : decode cX5_rumourItem 6 = .ok (.iaload, 1) := by decide +kernel
theorem dX5_rumourItem_7 : decode cX5_rumourItem 7 = .ok (.bipush 10, 2) := by decide +kernel
theorem dX5_rumourItem_9 : decode cX5_rumourItem 9 = .ok (.if_icmp .ge 7, 3) := by decide +kernel
theorem dX5_rumourItem_12 : decode cX5_rumourItem 12 = .ok (.iconst 1, 1) := by decide +kernel
theorem dX5_rumourItem_13 : decode cX5_rumourItem 13 = .ok (.goto 4, 3) := by decide +kernel
theorem dX5_rumourItem_16 : decode cX5_rumourItem 16 = .ok (.iconst 0, 1) := by decide +kernel
theorem dX5_rumourItem_17 : decode cX5_rumourItem 17 = .ok (.invokevirtual 249, 3) := by decide +kernel
theorem dX5_rumourItem_20 : decode cX5_rumourItem 20 = .ok (.aload_n 0, 1) := by decide +kernel
theorem dX5_rumourItem_21 : decode cX5_rumourItem 21 = .ok (.aload_n 0, 1) := by decide +kernel
theorem dX5_rumourItem_22 : decode cX5_rumourItem 22 = .ok (.invokevirtual 253, 3) := by decide +kernel
theorem dX5_rumourItem_25 : decode cX5_rumourItem 25 = .ok (.ldc2_w 272, 3) := by decide +kernel
theorem dX5_rumourItem_28 : decode cX5_rumourItem 28 = .ok (.lcmp, 1) := by decide +kernel
theorem dX5_rumourItem_29 : decode cX5_rumourItem 29 = .ok (.ifCond .ne 7, 3) := by decide +kernel
theorem dX5_rumourItem_32 : decode cX5_rumourItem 32 = .ok (.iconst 1, 1) := by decide +kernel
theorem dX5_rumourItem_33 : decode cX5_rumourItem 33 = .ok (.goto 4, 3) := by decide +kernel
theorem dX5_rumourItem_36 : decode cX5_rumourItem 36 = .ok (.iconst 0, 1) := by decide +kernel
theorem dX5_rumourItem_37 : decode cX5_rumourItem 37 = .ok (.invokevirtual 249, 3) := by decide +kernel
theorem dX5_rumourItem_40 : decode cX5_rumourItem 40 = .ok (.aload_n 0, 1) := by decide +kernel
theorem dX5_rumourItem_41 : decode cX5_rumourItem 41 = .ok (.iconst 0, 1) := by decide +kernel
theorem dX5_rumourItem_42 : decode cX5_rumourItem 42 = .ok (.bipush 15, 2) := by decide +kernel
theorem dX5_rumourItem_44 : decode cX5_rumourItem 44 = .ok (.invokevirtual 269, 3) := by decide +kernel
theorem dX5_rumourItem_47 : decode cX5_rumourItem 47 = .ok (.aload_n 0, 1) := by decide +kernel
theorem dX5_rumourItem_48 : decode cX5_rumourItem 48 = .ok (.getfield 235, 3) := by decide +kernel
theorem dX5_rumourItem_51 : decode cX5_rumourItem 51 = .ok (.ifCond .eq 4, 3) := by decide +kernel
theorem dX5_rumourItem_54 : decode cX5_rumourItem 54 = .ok (.return_, 1) := by decide +kernel
theorem dX5_rumourItem_55 : decode cX5_rumourItem 55 = .ok (.aload_n 0, 1) := by decide +kernel
theorem dX5_rumourItem_56 : decode cX5_rumourItem 56 = .ok (.iload_n 1, 1) := by decide +kernel
theorem dX5_rumourItem_57 : decode cX5_rumourItem 57 = .ok (.aload_n 0, 1) := by decide +kernel
theorem dX5_rumourItem_58 : decode cX5_rumourItem 58 = .ok (.getfield 246, 3) := by decide +kernel
theorem dX5_rumourItem_61 : decode cX5_rumourItem 61 = .ok (.invokevirtual 103, 3) := by decide +kernel
theorem dX5_rumourItem_64 : decode cX5_rumourItem 64 = .ok (.istore_n 2, 1) := by decide +kernel
theorem dX5_rumourItem_65 : decode cX5_rumourItem 65 = .ok (.aload_n 0, 1) := by decide +kernel
theorem dX5_rumourItem_66 : decode cX5_rumourItem 66 = .ok (.ldc2_w 274, 3) := by decide +kernel
theorem dX5_rumourItem_69 : decode cX5_rumourItem 69 = .ok (.iload_n 2, 1) := by decide +kernel
theorem dX5_rumourItem_70 : decode cX5_rumourItem 70 = .ok (.iconst 2, 1) := by decide +kernel
theorem dX5_rumourItem_71 : decode cX5_rumourItem 71 = .ok (.invokestatic 56, 3) := by decide +kernel
theorem dX5_rumourItem_74 : decode cX5_rumourItem 74 = .ok (.bipush 99, 2) := by decide +kernel
theorem dX5_rumourItem_76 : decode cX5_rumourItem 76 = .ok (.invokevirtual 276, 3) := by decide +kernel
theorem dX5_rumourItem_79 : decode cX5_rumourItem 79 = .ok (.aload_n 0, 1) := by decide +kernel
theorem dX5_rumourItem_80 : decode cX5_rumourItem 80 = .ok (.invokevirtual 253, 3) := by decide +kernel
theorem dX5_rumourItem_83 : decode cX5_rumourItem 83 = .ok (.ldc2_w 280, 3) := by decide +kernel
theorem dX5_rumourItem_86 : decode cX5_rumourItem 86 = .ok (.lcmp, 1) := by decide +kernel
theorem dX5_rumourItem_87 : decode cX5_rumourItem 87 = .ok (.ifCond .ne 59, 3) := by decide +kernel
theorem dX5_rumourItem_90 : decode cX5_rumourItem 90 = .ok (.aload_n 0, 1) := by decide +kernel
theorem dX5_rumourItem_91 : decode cX5_rumourItem 91 = .ok (.iconst 1, 1) := by decide +kernel
theorem dX5_rumourItem_92 : decode cX5_rumourItem 92 = .ok (.invokevirtual 249, 3) := by decide +kernel
theorem dX5_rumourItem_95 : decode cX5_rumourItem 95 = .ok (.aload_n 0, 1) := by decide +kernel
theorem dX5_rumourItem_96 : decode cX5_rumourItem 96 = .ok (.invokevirtual 282, 3) := by decide +kernel
theorem dX5_rumourItem_99 : decode cX5_rumourItem 99 = .ok (.istore_n 3, 1) := by decide +kernel
theorem dX5_rumourItem_100 : decode cX5_rumourItem 100 = .ok (.aload_n 0, 1) := by decide +kernel
theorem dX5_rumourItem_101 : decode cX5_rumourItem 101 = .ok (.iload_n 3, 1) := by decide +kernel
theorem dX5_rumourItem_102 : decode cX5_rumourItem 102 = .ok (.invokestatic 67, 3) := by decide +kernel
theorem dX5_rumourItem_105 : decode cX5_rumourItem 105 = .ok (.ifCond .eq 15, 3) := by decide +kernel
theorem dX5_rumourItem_108 : decode cX5_rumourItem 108 = .ok (.aload_n 0, 1) := by decide +kernel
theorem dX5_rumourItem_109 : decode cX5_rumourItem 109 = .ok (.iload_n 3, 1) := by decide +kernel
theorem dX5_rumourItem_110 : decode cX5_rumourItem 110 = .ok (.invokevirtual 125, 3) := by decide +kernel
theorem dX5_rumourItem_113 : decode cX5_rumourItem 113 = .ok (.ifCond .eq 7, 3) := by decide +kernel
theorem dX5_rumourItem_116 : decode cX5_rumourItem 116 = .ok (.iconst 1, 1) := by decide +kernel
theorem dX5_rumourItem_117 : decode cX5_rumourItem 117 = .ok (.goto 4, 3) := by decide +kernel
theorem dX5_rumourItem_120 : decode cX5_rumourItem 120 = .ok (.iconst 0, 1) := by decide +kernel
theorem dX5_rumourItem_121 : decode cX5_rumourItem 121 = .ok (.invokevirtual 249, 3) := by decide +kernel
theorem dX5_rumourItem_124 : decode cX5_rumourItem 124 = .ok (.aload_n 0, 1) := by decide +kernel
theorem dX5_rumourItem_125 : decode cX5_rumourItem 125 = .ok (.getfield 7, 3) := by decide +kernel
theorem dX5_rumourItem_128 : decode cX5_rumourItem 128 = .ok (.iload_n 2, 1) := by decide +kernel
theorem dX5_rumourItem_129 : decode cX5_rumourItem 129 = .ok (.iconst 4, 1) := by decide +kernel
theorem dX5_rumourItem_130 : decode cX5_rumourItem 130 = .ok (.invokestatic 56, 3) := by decide +kernel
theorem dX5_rumourItem_133 : decode cX5_rumourItem 133 = .ok (.aload_n 0, 1) := by decide +kernel
theorem dX5_rumourItem_134 : decode cX5_rumourItem 134 = .ok (.getfield 235, 3) := by decide +kernel
theorem dX5_rumourItem_137 : decode cX5_rumourItem 137 = .ok (.ifCond .eq 7, 3) := by decide +kernel
theorem dX5_rumourItem_140 : decode cX5_rumourItem 140 = .ok (.iconst (-1), 1) := by decide +kernel
theorem dX5_rumourItem_141 : decode cX5_rumourItem 141 = .ok (.goto 4, 3) := by decide +kernel
theorem dX5_rumourItem_144 : decode cX5_rumourItem 144 = .ok (.iload_n 3, 1) := by decide +kernel
theorem dX5_rumourItem_145 : decode cX5_rumourItem 145 = .ok (.iastore, 1) := by decide +kernel
theorem dX5_rumourItem_146 : decode cX5_rumourItem 146 = .ok (.return_, 1) := by decide +kernel
theorem dX5_houseItem_0 : decode cX5_houseItem 0 = .ok (.aload_n 0, 1) := by decide +kernel
theorem dX5_houseItem_1 : decode cX5_houseItem 1 = .ok (.iconst 1, 1) := by decide +kernel
theorem dX5_houseItem_2 : decode cX5_houseItem 2 = .ok (.invokevirtual 249, 3) := by decide +kernel
theorem dX5_houseItem_5 : decode cX5_houseItem 5 = .ok (.aload_n 0, 1) := by decide +kernel
theorem dX5_houseItem_6 : decode cX5_houseItem 6 = .ok (.iconst 0, 1) := by decide +kernel
theorem dX5_houseItem_7 : decode cX5_houseItem 7 = .ok (.bipush 7, 2) := by decide +kernel
theorem dX5_houseItem_9 : decode cX5_houseItem 9 = .ok (.invokevirtual 269, 3) := by decide +kernel
theorem dX5_houseItem_12 : decode cX5_houseItem 12 = .ok (.aload_n 0, 1) := by decide +kernel
theorem dX5_houseItem_13 : decode cX5_houseItem 13 = .ok (.getfield 235, 3) := by decide +kernel
theorem dX5_houseItem_16 : decode cX5_houseItem 16 = .ok (.ifCond .eq 7, 3) := by decide +kernel
theorem dX5_houseItem_19 : decode cX5_houseItem 19 = .ok (.iconst 0, 1) := by decide +kernel
theorem dX5_houseItem_20 : decode cX5_houseItem 20 = .ok (.goto 7, 3) := by decide +kernel
theorem dX5_houseItem_23 : decode cX5_houseItem 23 = .ok (.aload_n 0, 1) := by decide +kernel
theorem dX5_houseItem_24 : decode cX5_houseItem 24 = .ok (.getfield 246, 3) := by decide +kernel
theorem dX5_houseItem_27 : decode cX5_houseItem 27 = .ok (.istore_n 1, 1) := by decide +kernel
theorem dX5_houseItem_28 : decode cX5_houseItem 28 = .ok (.aload_n 0, 1) := by decide +kernel
theorem dX5_houseItem_29 : decode cX5_houseItem 29 = .ok (.ldc2_w 285, 3) := by decide +kernel
theorem dX5_houseItem_32 : decode cX5_houseItem 32 = .ok (.iload_n 1, 1) := by decide +kernel
theorem dX5_houseItem_33 : decode cX5_houseItem 33 = .ok (.iconst 0, 1) := by decide +kernel
theorem dX5_houseItem_34 : decode cX5_houseItem 34 = .ok (.invokestatic 41, 3) := by decide +kernel
theorem dX5_houseItem_37 : decode cX5_houseItem 37 = .ok (.iconst 3, 1) := by decide +kernel
theorem dX5_houseItem_38 : decode cX5_houseItem 38 = .ok (.invokevirtual 276, 3) := by decide +kernel
theorem dX5_houseItem_41 : decode cX5_houseItem 41 = .ok (.aload_n 0, 1) := by decide +kernel
theorem dX5_houseItem_42 : decode cX5_houseItem 42 = .ok (.ldc2_w 287, 3) := by decide +kernel
theorem dX5_houseItem_45 : decode cX5_houseItem 45 = .ok (.iload_n 1, 1) := by decide +kernel
theorem dX5_houseItem_46 : decode cX5_houseItem 46 = .ok (.iconst 1, 1) := by decide +kernel
theorem dX5_houseItem_47 : decode cX5_houseItem 47 = .ok (.invokestatic 41, 3) := by decide +kernel
theorem dX5_houseItem_50 : decode cX5_houseItem 50 = .ok (.sipush 999, 3) := by decide +kernel
theorem dX5_houseItem_53 : decode cX5_houseItem 53 = .ok (.invokevirtual 276, 3) := by decide +kernel
theorem dX5_houseItem_56 : decode cX5_houseItem 56 = .ok (.aload_n 0, 1) := by decide +kernel
theorem dX5_houseItem_57 : decode cX5_houseItem 57 = .ok (.ldc2_w 289, 3) := by decide +kernel
theorem dX5_houseItem_60 : decode cX5_houseItem 60 = .ok (.iload_n 1, 1) := by decide +kernel
theorem dX5_houseItem_61 : decode cX5_houseItem 61 = .ok (.iconst 2, 1) := by decide +kernel
theorem dX5_houseItem_62 : decode cX5_houseItem 62 = .ok (.invokestatic 41, 3) := by decide +kernel
theorem dX5_houseItem_65 : decode cX5_houseItem 65 = .ok (.bipush 9, 2) := by decide +kernel
theorem dX5_houseItem_67 : decode cX5_houseItem 67 = .ok (.invokevirtual 276, 3) := by decide +kernel
theorem dX5_houseItem_70 : decode cX5_houseItem 70 = .ok (.return_, 1) := by decide +kernel
theorem dX5_item_0 : decode cX5_item 0 = .ok (.aload_n 0, 1) := by decide +kernel
theorem dX5_item_1 : decode cX5_item 1 = .ok (.invokevirtual 291, 3) := by decide +kernel
theorem dX5_item_4 : decode cX5_item 4 = .ok (.istore_n 1, 1) := by decide +kernel
theorem dX5_item_5 : decode cX5_item 5 = .ok (.aload_n 0, 1) := by decide +kernel
theorem dX5_item_6 : decode cX5_item 6 = .ok (.invokevirtual 253, 3) := by decide +kernel
theorem dX5_item_9 : decode cX5_item 9 = .ok (.lstore_n 2, 1) := by decide +kernel
theorem dX5_item_10 : decode cX5_item 10 = .ok (.iload_n 1, 1) := by decide +kernel
theorem dX5_item_11 : decode cX5_item 11 = .ok (.ifCond .lt 11, 3) := by decide +kernel
theorem dX5_item_14 : decode cX5_item 14 = .ok (.aload_n 0, 1) := by decide +kernel
theorem dX5_item_15 : decode cX5_item 15 = .ok (.iload_n 1, 1) := by decide +kernel
theorem dX5_item_16 : decode cX5_item 16 = .ok (.invokevirtual 294, 3) := by decide +kernel
theorem dX5_item_19 : decode cX5_item 19 = .ok (.goto 59, 3) := by decide +kernel
theorem dX5_item_22 : decode cX5_item 22 = .ok (.lload_n 2, 1) := by decide +kernel
theorem dX5_item_23 : decode cX5_item 23 = .ok (.ldc2_w 297, 3) := by decide +kernel
theorem dX5_item_26 : decode cX5_item 26 = .ok (.lcmp, 1) := by decide +kernel
theorem dX5_item_27 : decode cX5_item 27 = .ok (.ifCond .ne 10, 3) := by decide +kernel
theorem dX5_item_30 : decode cX5_item 30 = .ok (.aload_n 0, 1) := by decide +kernel
theorem dX5_item_31 : decode cX5_item 31 = .ok (.invokevirtual 299, 3) := by decide +kernel
theorem dX5_item_34 : decode cX5_item 34 = .ok (.goto 44, 3) := by decide +kernel
theorem dX5_item_37 : decode cX5_item 37 = .ok (.aload_n 0, 1) := by decide +kernel
theorem dX5_item_38 : decode cX5_item 38 = .ok (.lload_n 2, 1) := by decide +kernel
theorem dX5_item_39 : decode cX5_item 39 = .ok (.ldc2_w 302, 3) := by decide +kernel
theorem dX5_item_42 : decode cX5_item 42 = .ok (.lcmp, 1) := by decide +kernel
theorem dX5_item_43 : decode cX5_item 43 = .ok (.ifCond .ne 7, 3) := by decide +kernel
theorem dX5_item_46 : decode cX5_item 46 = .ok (.iconst 1, 1) := by decide +kernel
theorem dX5_item_47 : decode cX5_item 47 = .ok (.goto 4, 3) := by decide +kernel
theorem dX5_item_50 : decode cX5_item 50 = .ok (.iconst 0, 1) := by decide +kernel
theorem dX5_item_51 : decode cX5_item 51 = .ok (.invokevirtual 249, 3) := by decide +kernel
theorem dX5_item_54 : decode cX5_item 54 = .ok (.aload_n 0, 1) := by decide +kernel
theorem dX5_item_55 : decode cX5_item 55 = .ok (.iconst 0, 1) := by decide +kernel
theorem dX5_item_56 : decode cX5_item 56 = .ok (.bipush 15, 2) := by decide +kernel
theorem dX5_item_58 : decode cX5_item 58 = .ok (.invokevirtual 269, 3) := by decide +kernel
theorem dX5_item_61 : decode cX5_item 61 = .ok (.aload_n 0, 1) := by decide +kernel
theorem dX5_item_62 : decode cX5_item 62 = .ok (.getfield 235, 3) := by decide +kernel
theorem dX5_item_65 : decode cX5_item 65 = .ok (.ifCond .ne 13, 3) := by decide +kernel
theorem dX5_item_68 : decode cX5_item 68 = .ok (.aload_n 0, 1) := by decide +kernel
theorem dX5_item_69 : decode cX5_item 69 = .ok (.aload_n 0, 1) := by decide +kernel
theorem dX5_item_70 : decode cX5_item 70 = .ok (.getfield 246, 3) := by decide +kernel
theorem dX5_item_73 : decode cX5_item 73 = .ok (.invokevirtual 147, 3) := by decide +kernel
theorem dX5_item_76 : decode cX5_item 76 = .ok (.istore 4, 2) := by decide +kernel
theorem dX5_item_78 : decode cX5_item 78 = .ok (.return_, 1) := by decide +kernel
theorem dX5_town_0 : decode cX5_town 0 = .ok (.aload_n 0, 1) := by decide +kernel
theorem dX5_town_1 : decode cX5_town 1 = .ok (.invokevirtual 304, 3) := by decide +kernel
theorem dX5_town_4 : decode cX5_town 4 = .ok (.aload_n 0, 1) := by decide +kernel
theorem dX5_town_5 : decode cX5_town 5 = .ok (.iconst 0, 1) := by decide +kernel
theorem dX5_town_6 : decode cX5_town 6 = .ok (.putfield 235, 3) := by decide +kernel
theorem dX5_town_9 : decode cX5_town 9 = .ok (.aload_n 0, 1) := by decide +kernel
theorem dX5_town_10 : decode cX5_town 10 = .ok (.iconst 0, 1) := by decide +kernel
theorem dX5_town_11 : decode cX5_town 11 = .ok (.putfield 220, 3) := by decide +kernel
theorem dX5_town_14 : decode cX5_town 14 = .ok (.aload_n 0, 1) := by decide +kernel
theorem dX5_town_15 : decode cX5_town 15 = .ok (.invokevirtual 239, 3) := by decide +kernel
theorem dX5_town_18 : decode cX5_town 18 = .ok (.iconst 1, 1) := by decide +kernel
theorem dX5_town_19 : decode cX5_town 19 = .ok (.istore_n 1, 1) := by decide +kernel
theorem dX5_town_20 : decode cX5_town 20 = .ok (.aload_n 0, 1) := by decide +kernel
theorem dX5_town_21 : decode cX5_town 21 = .ok (.invokevirtual 307, 3) := by decide +kernel
theorem dX5_town_24 : decode cX5_town 24 = .ok (.aload_n 0, 1) := by decide +kernel
theorem dX5_town_25 : decode cX5_town 25 = .ok (.getfield 235, 3) := by decide +kernel
theorem dX5_town_28 : decode cX5_town 28 = .ok (.ifCond .ne 31, 3) := by decide +kernel
theorem dX5_town_31 : decode cX5_town 31 = .ok (.aload_n 0, 1) := by decide +kernel
theorem dX5_town_32 : decode cX5_town 32 = .ok (.aload_n 0, 1) := by decide +kernel
theorem dX5_town_33 : decode cX5_town 33 = .ok (.getfield 223, 3) := by decide +kernel
theorem dX5_town_36 : decode cX5_town 36 = .ok (.invokevirtual 226, 3) := by decide +kernel
theorem dX5_town_39 : decode cX5_town 39 = .ok (.bipush 59, 2) := by decide +kernel
theorem dX5_town_41 : decode cX5_town 41 = .ok (.if_icmp .ne 18, 3) := by decide +kernel
theorem dX5_town_44 : decode cX5_town 44 = .ok (.aload_n 0, 1) := by decide +kernel
theorem dX5_town_45 : decode cX5_town 45 = .ok (.iconst 1, 1) := by decide +kernel
theorem dX5_town_46 : decode cX5_town 46 = .ok (.invokevirtual 249, 3) := by decide +kernel
theorem dX5_town_49 : decode cX5_town 49 = .ok (.aload_n 0, 1) := by decide +kernel
theorem dX5_town_50 : decode cX5_town 50 = .ok (.invokevirtual 307, 3) := by decide +kernel
theorem dX5_town_53 : decode cX5_town 53 = .ok (.iinc 1 1, 3) := by decide +kernel
theorem dX5_town_56 : decode cX5_town 56 = .ok (.goto (-32), 3) := by decide +kernel
theorem dX5_town_59 : decode cX5_town 59 = .ok (.aload_n 0, 1) := by decide +kernel
theorem dX5_town_60 : decode cX5_town 60 = .ok (.aload_n 0, 1) := by decide +kernel
theorem dX5_town_61 : decode cX5_town 61 = .ok (.getfield 235, 3) := by decide +kernel
theorem dX5_town_64 : decode cX5_town 64 = .ok (.ifCond .ne 14, 3) := by decide +kernel
theorem dX5_town_67 : decode cX5_town 67 = .ok (.aload_n 0, 1) := by decide +kernel
theorem dX5_town_68 : decode cX5_town 68 = .ok (.getfield 223, 3) := by decide +kernel
theorem dX5_town_71 : decode cX5_town 71 = .ok (.aload_n 0, 1) := by decide +kernel
theorem dX5_town_72 : decode cX5_town 72 = .ok (.getfield 208, 3) := by decide +kernel
theorem dX5_town_75 : decode cX5_town 75 = .ok (.if_icmp .ge 7, 3) := by decide +kernel
theorem dX5_town_78 : decode cX5_town 78 = .ok (.iconst 1, 1) := by decide +kernel
theorem dX5_town_79 : decode cX5_town 79 = .ok (.goto 4, 3) := by decide +kernel
theorem dX5_town_82 : decode cX5_town 82 = .ok (.iconst 0, 1) := by decide +kernel
theorem dX5_town_83 : decode cX5_town 83 = .ok (.putfield 235, 3) := by decide +kernel
theorem dX5_town_86 : decode cX5_town 86 = .ok (.aload_n 0, 1) := by decide +kernel
theorem dX5_town_87 : decode cX5_town 87 = .ok (.getfield 235, 3) := by decide +kernel
theorem dX5_town_90 : decode cX5_town 90 = .ok (.ifCond .eq 7, 3) := by decide +kernel
theorem dX5_town_93 : decode cX5_town 93 = .ok (.aload_n 0, 1) := by decide +kernel
theorem dX5_town_94 : decode cX5_town 94 = .ok (.invokevirtual 310, 3) := by decide +kernel
theorem dX5_town_97 : decode cX5_town 97 = .ok (.aload_n 0, 1) := by decide +kernel
theorem dX5_town_98 : decode cX5_town 98 = .ok (.iconst 0, 1) := by decide +kernel
theorem dX5_town_99 : decode cX5_town 99 = .ok (.putfield 208, 3) := by decide +kernel
theorem dX5_town_102 : decode cX5_town 102 = .ok (.aload_n 0, 1) := by decide +kernel
theorem dX5_town_103 : decode cX5_town 103 = .ok (.getfield 235, 3) := by decide +kernel
theorem dX5_town_106 : decode cX5_town 106 = .ok (.ifCond .eq 12, 3) := by decide +kernel
theorem dX5_town_109 : decode cX5_town 109 = .ok (.iconst (-1), 1) := by decide +kernel
theorem dX5_town_110 : decode cX5_town 110 = .ok (.aload_n 0, 1) := by decide +kernel
theorem dX5_town_111 : decode cX5_town 111 = .ok (.getfield 223, 3) := by decide +kernel
theorem dX5_town_114 : decode cX5_town 114 = .ok (.isub, 1) := by decide +kernel
theorem dX5_town_115 : decode cX5_town 115 = .ok (.goto 4, 3) := by decide +kernel
theorem dX5_town_118 : decode cX5_town 118 = .ok (.iload_n 1, 1) := by decide +kernel
theorem dX5_town_119 : decode cX5_town 119 = .ok (.ireturn, 1) := by decide +kernel
theorem dX5_isOne_0 : decode cX5_isOne 0 = .ok (.iload_n 0, 1) := by decide +kernel
theorem dX5_isOne_1 : decode cX5_isOne 1 = .ok (.i2l, 1) := by decide +kernel
theorem dX5_isOne_2 : decode cX5_isOne 2 = .ok (.lconst 0, 1) := by decide +kernel
theorem dX5_isOne_3 : decode cX5_isOne 3 = .ok (.ldc2_w 61, 3) := by decide +kernel
theorem dX5_isOne_6 : decode cX5_isOne 6 = .ok (.invokestatic 48, 3) := by decide +kernel
theorem dX5_isOne_9 : decode cX5_isOne 9 = .ok (.ireturn, 1) := by decide +kernel
theorem dX5_sheet_0 : decode cX5_sheet 0 = .ok (.iload_n 1, 1) := by decide +kernel
theorem dX5_sheet_1 : decode cX5_sheet 1 = .ok (.invokestatic 313, 3) := by decide +kernel
theorem dX5_sheet_4 : decode cX5_sheet 4 = .ok (.ifCond .eq 25, 3) := by decide +kernel
theorem dX5_sheet_7 : decode cX5_sheet 7 = .ok (.iload_n 2, 1) := by decide +kernel
theorem dX5_sheet_8 : decode cX5_sheet 8 = .ok (.ifCond .eq 28, 3) := by decide +kernel
theorem dX5_sheet_11 : decode cX5_sheet 11 = .ok (.iload_n 2, 1) := by decide +kernel
theorem dX5_sheet_12 : decode cX5_sheet 12 = .ok (.bipush 8, 2) := by decide +kernel
theorem dX5_sheet_14 : decode cX5_sheet 14 = .ok (.if_icmp .eq 22, 3) := by decide +kernel
theorem dX5_sheet_17 : decode cX5_sheet 17 = .ok (.iload_n 2, 1) := by decide +kernel
theorem dX5_sheet_18 : decode cX5_sheet 18 = .ok (.bipush 16, 2) := by decide +kernel
theorem dX5_sheet_20 : decode cX5_sheet 20 = .ok (.if_icmp .eq 16, 3) := by decide +kernel
theorem dX5_sheet_23 : decode cX5_sheet 23 = .ok (.iload_n 2, 1) := by decide +kernel
theorem dX5_sheet_24 : decode cX5_sheet 24 = .ok (.bipush 64, 2) := by decide +kernel
theorem dX5_sheet_26 : decode cX5_sheet 26 = .ok (.if_icmp .eq 10, 3) := by decide +kernel
theorem dX5_sheet_29 : decode cX5_sheet 29 = .ok (.aload_n 0, 1) := by decide +kernel
theorem dX5_sheet_30 : decode cX5_sheet 30 = .ok (.ldc 45, 2) := by decide +kernel
theorem dX5_sheet_32 : decode cX5_sheet 32 = .ok (.invokevirtual 74, 3) := by decide +kernel
theorem dX5_sheet_35 : decode cX5_sheet 35 = .ok (.ireturn, 1) := by decide +kernel
theorem dX5_sheet_36 : decode cX5_sheet 36 = .ok (.iload_n 3, 1) := by decide +kernel
theorem dX5_sheet_37 : decode cX5_sheet 37 = .ok (.ifCond .ge 11, 3) := by decide +kernel
theorem dX5_sheet_40 : decode cX5_sheet 40 = .ok (.aload_n 0, 1) := by decide +kernel
theorem dX5_sheet_41 : decode cX5_sheet 41 = .ok (.ldc_w 316, 3) := by decide +kernel
theorem dX5_sheet_44 : decode cX5_sheet 44 = .ok (.invokevirtual 74, 3) := by decide +kernel
theorem dX5_sheet_47 : decode cX5_sheet 47 = .ok (.ireturn, 1) := by decide +kernel
theorem dX5_sheet_48 : decode cX5_sheet 48 = .ok (.iload_n 3, 1) := by decide +kernel
theorem dX5_sheet_49 : decode cX5_sheet 49 = .ok (.bipush 40, 2) := by decide +kernel
theorem dX5_sheet_51 : decode cX5_sheet 51 = .ok (.if_icmp .le 10, 3) := by decide +kernel
theorem dX5_sheet_54 : decode cX5_sheet 54 = .ok (.aload_n 0, 1) := by decide +kernel
theorem dX5_sheet_55 : decode cX5_sheet 55 = .ok (.ldc 45, 2) := by decide +kernel
theorem dX5_sheet_57 : decode cX5_sheet 57 = .ok (.invokevirtual 74, 3) := by decide +kernel
theorem dX5_sheet_60 : decode cX5_sheet 60 = .ok (.ireturn, 1) := by decide +kernel
theorem dX5_sheet_61 : decode cX5_sheet 61 = .ok (.aload_n 0, 1) := by decide +kernel
theorem dX5_sheet_62 : decode cX5_sheet 62 = .ok (.getfield 28, 3) := by decide +kernel
theorem dX5_sheet_65 : decode cX5_sheet 65 = .ok (.iload_n 1, 1) := by decide +kernel
theorem dX5_sheet_66 : decode cX5_sheet 66 = .ok (.iload_n 2, 1) := by decide +kernel
theorem dX5_sheet_67 : decode cX5_sheet 67 = .ok (.iastore, 1) := by decide +kernel
theorem dX5_sheet_68 : decode cX5_sheet 68 = .ok (.aload_n 0, 1) := by decide +kernel
theorem dX5_sheet_69 : decode cX5_sheet 69 = .ok (.getfield 31, 3) := by decide +kernel
theorem dX5_sheet_72 : decode cX5_sheet 72 = .ok (.iload_n 1, 1) := by decide +kernel
theorem dX5_sheet_73 : decode cX5_sheet 73 = .ok (.iload_n 2, 1) := by decide +kernel
theorem dX5_sheet_74 : decode cX5_sheet 74 = .ok (.ifCond .ne 7, 3) := by decide +kernel
theorem dX5_sheet_77 : decode cX5_sheet 77 = .ok (.iconst 0, 1) := by decide +kernel
theorem dX5_sheet_78 : decode cX5_sheet 78 = .ok (.goto 4, 3) := by decide +kernel
theorem dX5_sheet_81 : decode cX5_sheet 81 = .ok (.iload_n 3, 1) := by decide +kernel
theorem dX5_sheet_82 : decode cX5_sheet 82 = .ok (.iastore, 1) := by decide +kernel
theorem dX5_sheet_83 : decode cX5_sheet 83 = .ok (.iconst 0, 1) := by decide +kernel
theorem dX5_sheet_84 : decode cX5_sheet 84 = .ok (.istore 4, 2) := by decide +kernel
theorem dX5_sheet_86 : decode cX5_sheet 86 = .ok (.iload 4, 2) := by decide +kernel
theorem dX5_sheet_88 : decode cX5_sheet 88 = .ok (.bipush 40, 2) := by decide +kernel
theorem dX5_sheet_90 : decode cX5_sheet 90 = .ok (.if_icmp .ge 22, 3) := by decide +kernel
theorem dX5_sheet_93 : decode cX5_sheet 93 = .ok (.aload_n 0, 1) := by decide +kernel
theorem dX5_sheet_94 : decode cX5_sheet 94 = .ok (.getfield 34, 3) := by decide +kernel
theorem dX5_sheet_97 : decode cX5_sheet 97 = .ok (.bipush 40, 2) := by decide +kernel
theorem dX5_sheet_99 : decode cX5_sheet 99 = .ok (.iload_n 1, 1) := by decide +kernel
theorem dX5_sheet_100 : decode cX5_sheet 100 = .ok (.imul, 1) := by decide +kernel
theorem dX5_sheet_101 : decode cX5_sheet 101 = .ok (.iload 4, 2) := by decide +kernel
theorem dX5_sheet_103 : decode cX5_sheet 103 = .ok (.iadd, 1) := by decide +kernel
theorem dX5_sheet_104 : decode cX5_sheet 104 = .ok (.lconst 0, 1) := by decide +kernel
theorem dX5_sheet_105 : decode cX5_sheet 105 = .ok (.lastore, 1) := by decide +kernel
theorem dX5_sheet_106 : decode cX5_sheet 106 = .ok (.iinc 4 1, 3) := by decide +kernel
theorem dX5_sheet_109 : decode cX5_sheet 109 = .ok (.goto (-23), 3) := by decide +kernel
theorem dX5_sheet_112 : decode cX5_sheet 112 = .ok (.aload_n 0, 1) := by decide +kernel
theorem dX5_sheet_113 : decode cX5_sheet 113 = .ok (.getfield 31, 3) := by decide +kernel
theorem dX5_sheet_116 : decode cX5_sheet 116 = .ok (.iload_n 1, 1) := by decide +kernel
theorem dX5_sheet_117 : decode cX5_sheet 117 = .ok (.iaload, 1) := by decide +kernel
theorem dX5_sheet_118 : decode cX5_sheet 118 = .ok (.ireturn, 1) := by decide +kernel
theorem dX5_narrowed_0 : decode cX5_narrowed 0 = .ok (.iload_n 0, 1) := by decide +kernel
theorem dX5_narrowed_1 : decode cX5_narrowed 1 = .ok (.bipush 8, 2) := by decide +kernel
theorem dX5_narrowed_3 : decode cX5_narrowed 3 = .ok (.if_icmp .ne 10, 3) := by decide +kernel
theorem dX5_narrowed_6 : decode cX5_narrowed 6 = .ok (.lload_n 1, 1) := by decide +kernel
theorem dX5_narrowed_7 : decode cX5_narrowed 7 = .ok (.l2i, 1) := by decide +kernel
theorem dX5_narrowed_8 : decode cX5_narrowed 8 = .ok (.i2b, 1) := by decide +kernel
theorem dX5_narrowed_9 : decode cX5_narrowed 9 = .ok (.i2l, 1) := by decide +kernel
theorem dX5_narrowed_10 : decode cX5_narrowed 10 = .ok (.goto 17, 3) := by decide +kernel
theorem dX5_narrowed_13 : decode cX5_narrowed 13 = .ok (.iload_n 0, 1) := by decide +kernel
theorem dX5_narrowed_14 : decode cX5_narrowed 14 = .ok (.bipush 16, 2) := by decide +kernel
theorem dX5_narrowed_16 : decode cX5_narrowed 16 = .ok (.if_icmp .ne 10, 3) := by decide +kernel
theorem dX5_narrowed_19 : decode cX5_narrowed 19 = .ok (.lload_n 1, 1) := by decide +kernel
theorem dX5_narrowed_20 : decode cX5_narrowed 20 = .ok (.l2i, 1) := by decide +kernel
theorem dX5_narrowed_21 : decode cX5_narrowed 21 = .ok (.i2s, 1) := by decide +kernel
theorem dX5_narrowed_22 : decode cX5_narrowed 22 = .ok (.i2l, 1) := by decide +kernel
theorem dX5_narrowed_23 : decode cX5_narrowed 23 = .ok (.goto 4, 3) := by decide +kernel
theorem dX5_narrowed_26 : decode cX5_narrowed 26 = .ok (.lload_n 1, 1) := by decide +kernel
theorem dX5_narrowed_27 : decode cX5_narrowed 27 = .ok (.lreturn, 1) := by decide +kernel
theorem dX5_wrongSheet_0 : decode cX5_wrongSheet 0 = .ok (.iload_n 1, 1) := by decide +kernel
theorem dX5_wrongSheet_1 : decode cX5_wrongSheet 1 = .ok (.invokestatic 313, 3) := by decide +kernel
theorem dX5_wrongSheet_4 : decode cX5_wrongSheet 4 = .ok (.ifCond .ne 8, 3) := by decide +kernel
theorem dX5_wrongSheet_7 : decode cX5_wrongSheet 7 = .ok (.ldc 45, 2) := by decide +kernel
theorem dX5_wrongSheet_9 : decode cX5_wrongSheet 9 = .ok (.goto 19, 3) := by decide +kernel
theorem dX5_wrongSheet_12 : decode cX5_wrongSheet 12 = .ok (.aload_n 0, 1) := by decide +kernel
theorem dX5_wrongSheet_13 : decode cX5_wrongSheet 13 = .ok (.getfield 28, 3) := by decide +kernel
theorem dX5_wrongSheet_16 : decode cX5_wrongSheet 16 = .ok (.iload_n 1, 1) := by decide +kernel
theorem dX5_wrongSheet_17 : decode cX5_wrongSheet 17 = .ok (.iaload, 1) := by decide +kernel
theorem dX5_wrongSheet_18 : decode cX5_wrongSheet 18 = .ok (.ifCond .ne 9, 3) := by decide +kernel
theorem dX5_wrongSheet_21 : decode cX5_wrongSheet 21 = .ok (.ldc_w 317, 3) := by decide +kernel
theorem dX5_wrongSheet_24 : decode cX5_wrongSheet 24 = .ok (.goto 4, 3) := by decide +kernel
theorem dX5_wrongSheet_27 : decode cX5_wrongSheet 27 = .ok (.iconst 0, 1) := by decide +kernel
theorem dX5_wrongSheet_28 : decode cX5_wrongSheet 28 = .ok (.ireturn, 1) := by decide +kernel
theorem dX5_write_0 : decode cX5_write 0 = .ok (.aload_n 0, 1) := by decide +kernel
theorem dX5_write_1 : decode cX5_write 1 = .ok (.iload_n 1, 1) := by decide +kernel
theorem dX5_write_2 : decode cX5_write 2 = .ok (.invokevirtual 318, 3) := by decide +kernel
theorem dX5_write_5 : decode cX5_write 5 = .ok (.istore 5, 2) := by decide +kernel
theorem dX5_write_7 : decode cX5_write 7 = .ok (.iload 5, 2) := by decide +kernel
theorem dX5_write_9 : decode cX5_write 9 = .ok (.ifCond .eq 11, 3) := by decide +kernel
theorem dX5_write_12 : decode cX5_write 12 = .ok (.aload_n 0, 1) := by decide +kernel
theorem dX5_write_13 : decode cX5_write 13 = .ok (.iload 5, 2) := by decide +kernel
theorem dX5_write_15 : decode cX5_write 15 = .ok (.invokevirtual 74, 3) := by decide +kernel
theorem dX5_write_18 : decode cX5_write 18 = .ok (.i2l, 1) := by decide +kernel
theorem dX5_write_19 : decode cX5_write 19 = .ok (.lreturn, 1) := by decide +kernel
theorem dX5_write_20 : decode cX5_write 20 = .ok (.iload_n 2, 1) := by decide +kernel
theorem dX5_write_21 : decode cX5_write 21 = .ok (.i2l, 1) := by decide +kernel
theorem dX5_write_22 : decode cX5_write 22 = .ok (.lconst 0, 1) := by decide +kernel
theorem dX5_write_23 : decode cX5_write 23 = .ok (.aload_n 0, 1) := by decide +kernel
theorem dX5_write_24 : decode cX5_write 24 = .ok (.getfield 31, 3) := by decide +kernel
theorem dX5_write_27 : decode cX5_write 27 = .ok (.iload_n 1, 1) := by decide +kernel
theorem dX5_write_28 : decode cX5_write 28 = .ok (.iaload, 1) := by decide +kernel
theorem dX5_write_29 : decode cX5_write 29 = .ok (.iconst 1, 1) := by decide +kernel
theorem dX5_write_30 : decode cX5_write 30 = .ok (.isub, 1) := by decide +kernel
theorem dX5_write_31 : decode cX5_write 31 = .ok (.i2l, 1) := by decide +kernel
theorem dX5_write_32 : decode cX5_write 32 = .ok (.invokestatic 48, 3) := by decide +kernel
theorem dX5_write_35 : decode cX5_write 35 = .ok (.ifCond .ne 11, 3) := by decide +kernel
theorem dX5_write_38 : decode cX5_write 38 = .ok (.aload_n 0, 1) := by decide +kernel
theorem dX5_write_39 : decode cX5_write 39 = .ok (.ldc 45, 2) := by decide +kernel
theorem dX5_write_41 : decode cX5_write 41 = .ok (.invokevirtual 74, 3) := by decide +kernel
theorem dX5_write_44 : decode cX5_write 44 = .ok (.i2l, 1) := by decide +kernel
theorem dX5_write_45 : decode cX5_write 45 = .ok (.lreturn, 1) := by decide +kernel
theorem dX5_write_46 : decode cX5_write 46 = .ok (.aload_n 0, 1) := by decide +kernel
theorem dX5_write_47 : decode cX5_write 47 = .ok (.getfield 34, 3) := by decide +kernel
theorem dX5_write_50 : decode cX5_write 50 = .ok (.bipush 40, 2) := by decide +kernel
theorem dX5_write_52 : decode cX5_write 52 = .ok (.iload_n 1, 1) := by decide +kernel
theorem dX5_write_53 : decode cX5_write 53 = .ok (.imul, 1) := by decide +kernel
theorem dX5_write_54 : decode cX5_write 54 = .ok (.iload_n 2, 1) := by decide +kernel
theorem dX5_write_55 : decode cX5_write 55 = .ok (.iadd, 1) := by decide +kernel
theorem dX5_write_56 : decode cX5_write 56 = .ok (.laload, 1) := by decide +kernel
theorem dX5_write_57 : decode cX5_write 57 = .ok (.lstore 6, 2) := by decide +kernel
theorem dX5_write_59 : decode cX5_write 59 = .ok (.aload_n 0, 1) := by decide +kernel
theorem dX5_write_60 : decode cX5_write 60 = .ok (.getfield 34, 3) := by decide +kernel
theorem dX5_write_63 : decode cX5_write 63 = .ok (.bipush 40, 2) := by decide +kernel
theorem dX5_write_65 : decode cX5_write 65 = .ok (.iload_n 1, 1) := by decide +kernel
theorem dX5_write_66 : decode cX5_write 66 = .ok (.imul, 1) := by decide +kernel
theorem dX5_write_67 : decode cX5_write 67 = .ok (.iload_n 2, 1) := by decide +kernel
theorem dX5_write_68 : decode cX5_write 68 = .ok (.iadd, 1) := by decide +kernel
theorem dX5_write_69 : decode cX5_write 69 = .ok (.aload_n 0, 1) := by decide +kernel
theorem dX5_write_70 : decode cX5_write 70 = .ok (.getfield 28, 3) := by decide +kernel
theorem dX5_write_73 : decode cX5_write 73 = .ok (.iload_n 1, 1) := by decide +kernel
theorem dX5_write_74 : decode cX5_write 74 = .ok (.iaload, 1) := by decide +kernel
theorem dX5_write_75 : decode cX5_write 75 = .ok (.lload_n 3, 1) := by decide +kernel
theorem dX5_write_76 : decode cX5_write 76 = .ok (.invokestatic 321, 3) := by decide +kernel
theorem dX5_write_79 : decode cX5_write 79 = .ok (.lastore, 1) := by decide +kernel
theorem dX5_write_80 : decode cX5_write 80 = .ok (.lload 6, 2) := by decide +kernel
theorem dX5_write_82 : decode cX5_write 82 = .ok (.lreturn, 1) := by decide +kernel
theorem dX5_copy_0 : decode cX5_copy 0 = .ok (.iload_n 1, 1) := by decide +kernel
theorem dX5_copy_1 : decode cX5_copy 1 = .ok (.invokestatic 313, 3) := by decide +kernel
theorem dX5_copy_4 : decode cX5_copy 4 = .ok (.ifCond .eq 10, 3) := by decide +kernel
theorem dX5_copy_7 : decode cX5_copy 7 = .ok (.iload_n 3, 1) := by decide +kernel
theorem dX5_copy_8 : decode cX5_copy 8 = .ok (.invokestatic 313, 3) := by decide +kernel
theorem dX5_copy_11 : decode cX5_copy 11 = .ok (.ifCond .ne 10, 3) := by decide +kernel
theorem dX5_copy_14 : decode cX5_copy 14 = .ok (.aload_n 0, 1) := by decide +kernel
theorem dX5_copy_15 : decode cX5_copy 15 = .ok (.ldc 45, 2) := by decide +kernel
theorem dX5_copy_17 : decode cX5_copy 17 = .ok (.invokevirtual 74, 3) := by decide +kernel
theorem dX5_copy_20 : decode cX5_copy 20 = .ok (.ireturn, 1) := by decide +kernel
theorem dX5_copy_21 : decode cX5_copy 21 = .ok (.aload_n 0, 1) := by decide +kernel
theorem dX5_copy_22 : decode cX5_copy 22 = .ok (.getfield 28, 3) := by decide +kernel
theorem dX5_copy_25 : decode cX5_copy 25 = .ok (.iload_n 1, 1) := by decide +kernel
theorem dX5_copy_26 : decode cX5_copy 26 = .ok (.iaload, 1) := by decide +kernel
theorem dX5_copy_27 : decode cX5_copy 27 = .ok (.ifCond .eq 12, 3) := by decide +kernel
theorem dX5_copy_30 : decode cX5_copy 30 = .ok (.aload_n 0, 1) := by decide +kernel
theorem dX5_copy_31 : decode cX5_copy 31 = .ok (.getfield 28, 3) := by decide +kernel
theorem dX5_copy_34 : decode cX5_copy 34 = .ok (.iload_n 3, 1) := by decide +kernel
theorem dX5_copy_35 : decode cX5_copy 35 = .ok (.iaload, 1) := by decide +kernel
theorem dX5_copy_36 : decode cX5_copy 36 = .ok (.ifCond .ne 11, 3) := by decide +kernel
theorem dX5_copy_39 : decode cX5_copy 39 = .ok (.aload_n 0, 1) := by decide +kernel
theorem dX5_copy_40 : decode cX5_copy 40 = .ok (.ldc_w 317, 3) := by decide +kernel
theorem dX5_copy_43 : decode cX5_copy 43 = .ok (.invokevirtual 74, 3) := by decide +kernel
theorem dX5_copy_46 : decode cX5_copy 46 = .ok (.ireturn, 1) := by decide +kernel
theorem dX5_copy_47 : decode cX5_copy 47 = .ok (.aload_n 0, 1) := by decide +kernel
theorem dX5_copy_48 : decode cX5_copy 48 = .ok (.getfield 28, 3) := by decide +kernel
theorem dX5_copy_51 : decode cX5_copy 51 = .ok (.iload_n 1, 1) := by decide +kernel
theorem dX5_copy_52 : decode cX5_copy 52 = .ok (.iaload, 1) := by decide +kernel
theorem dX5_copy_53 : decode cX5_copy 53 = .ok (.aload_n 0, 1) := by decide +kernel
theorem dX5_copy_54 : decode cX5_copy 54 = .ok (.getfield 28, 3) := by decide +kernel
theorem dX5_copy_57 : decode cX5_copy 57 = .ok (.iload_n 3, 1) := by decide +kernel
theorem dX5_copy_58 : decode cX5_copy 58 = .ok (.iaload, 1) := by decide +kernel
theorem dX5_copy_59 : decode cX5_copy 59 = .ok (.if_icmp .eq 10, 3) := by decide +kernel
theorem dX5_copy_62 : decode cX5_copy 62 = .ok (.aload_n 0, 1) := by decide +kernel
theorem dX5_copy_63 : decode cX5_copy 63 = .ok (.ldc 121, 2) := by decide +kernel
theorem dX5_copy_65 : decode cX5_copy 65 = .ok (.invokevirtual 74, 3) := by decide +kernel
theorem dX5_copy_68 : decode cX5_copy 68 = .ok (.ireturn, 1) := by decide +kernel
theorem dX5_copy_69 : decode cX5_copy 69 = .ok (.iload_n 2, 1) := by decide +kernel
theorem dX5_copy_70 : decode cX5_copy 70 = .ok (.ifCond .lt 40, 3) := by decide +kernel
theorem dX5_copy_73 : decode cX5_copy 73 = .ok (.iload 4, 2) := by decide +kernel
theorem dX5_copy_75 : decode cX5_copy 75 = .ok (.ifCond .lt 35, 3) := by decide +kernel
theorem dX5_copy_78 : decode cX5_copy 78 = .ok (.iload 5, 2) := by decide +kernel
theorem dX5_copy_80 : decode cX5_copy 80 = .ok (.ifCond .lt 30, 3) := by decide +kernel
theorem dX5_copy_83 : decode cX5_copy 83 = .ok (.iload 5, 2) := by decide +kernel
theorem dX5_copy_85 : decode cX5_copy 85 = .ok (.aload_n 0, 1) := by decide +kernel
theorem dX5_copy_86 : decode cX5_copy 86 = .ok (.getfield 31, 3) := by decide +kernel
theorem dX5_copy_89 : decode cX5_copy 89 = .ok (.iload_n 1, 1) := by decide +kernel
theorem dX5_copy_90 : decode cX5_copy 90 = .ok (.iaload, 1) := by decide +kernel
theorem dX5_copy_91 : decode cX5_copy 91 = .ok (.iload_n 2, 1) := by decide +kernel
theorem dX5_copy_92 : decode cX5_copy 92 = .ok (.isub, 1) := by decide +kernel
theorem dX5_copy_93 : decode cX5_copy 93 = .ok (.if_icmp .gt 17, 3) := by decide +kernel
theorem dX5_copy_96 : decode cX5_copy 96 = .ok (.iload 5, 2) := by decide +kernel
theorem dX5_copy_98 : decode cX5_copy 98 = .ok (.aload_n 0, 1) := by decide +kernel
theorem dX5_copy_99 : decode cX5_copy 99 = .ok (.getfield 31, 3) := by decide +kernel
theorem dX5_copy_102 : decode cX5_copy 102 = .ok (.iload_n 3, 1) := by decide +kernel
theorem dX5_copy_103 : decode cX5_copy 103 = .ok (.iaload, 1) := by decide +kernel
theorem dX5_copy_104 : decode cX5_copy 104 = .ok (.iload 4, 2) := by decide +kernel
theorem dX5_copy_106 : decode cX5_copy 106 = .ok (.isub, 1) := by decide +kernel
theorem dX5_copy_107 : decode cX5_copy 107 = .ok (.if_icmp .le 10, 3) := by decide +kernel
theorem dX5_copy_110 : decode cX5_copy 110 = .ok (.aload_n 0, 1) := by decide +kernel
theorem dX5_copy_111 : decode cX5_copy 111 = .ok (.ldc 45, 2) := by decide +kernel
theorem dX5_copy_113 : decode cX5_copy 113 = .ok (.invokevirtual 74, 3) := by decide +kernel
theorem dX5_copy_116 : decode cX5_copy 116 = .ok (.ireturn, 1) := by decide +kernel
theorem dX5_copy_117 : decode cX5_copy 117 = .ok (.iconst 0, 1) := by decide +kernel
theorem dX5_copy_118 : decode cX5_copy 118 = .ok (.istore 6, 2) := by decide +kernel
theorem dX5_copy_120 : decode cX5_copy 120 = .ok (.iload 6, 2) := by decide +kernel
theorem dX5_copy_122 : decode cX5_copy 122 = .ok (.iload 5, 2) := by decide +kernel
theorem dX5_copy_124 : decode cX5_copy 124 = .ok (.if_icmp .ge 30, 3) := by decide +kernel
theorem dX5_copy_127 : decode cX5_copy 127 = .ok (.aload_n 0, 1) := by decide +kernel
theorem dX5_copy_128 : decode cX5_copy 128 = .ok (.getfield 38, 3) := by decide +kernel
theorem dX5_copy_131 : decode cX5_copy 131 = .ok (.iload 6, 2) := by decide +kernel
theorem dX5_copy_133 : decode cX5_copy 133 = .ok (.aload_n 0, 1) := by decide +kernel
theorem dX5_copy_134 : decode cX5_copy 134 = .ok (.getfield 34, 3) := by decide +kernel
theorem dX5_copy_137 : decode cX5_copy 137 = .ok (.bipush 40, 2) := by decide +kernel
theorem dX5_copy_139 : decode cX5_copy 139 = .ok (.iload_n 1, 1) := by decide +kernel
theorem dX5_copy_140 : decode cX5_copy 140 = .ok (.imul, 1) := by decide +kernel
theorem dX5_copy_141 : decode cX5_copy 141 = .ok (.iload_n 2, 1) := by decide +kernel
theorem dX5_copy_142 : decode cX5_copy 142 = .ok (.iadd, 1) := by decide +kernel
theorem dX5_copy_143 : decode cX5_copy 143 = .ok (.iload 6, 2) := by decide +kernel
theorem dX5_copy_145 : decode cX5_copy 145 = .ok (.iadd, 1) := by decide +kernel
theorem dX5_copy_146 : decode cX5_copy 146 = .ok (.laload, 1) := by decide +kernel
theorem dX5_copy_147 : decode cX5_copy 147 = .ok (.lastore, 1) := by decide +kernel
theorem dX5_copy_148 : decode cX5_copy 148 = .ok (.iinc 6 1, 3) := by decide +kernel
theorem dX5_copy_151 : decode cX5_copy 151 = .ok (.goto (-31), 3) := by decide +kernel
theorem dX5_copy_154 : decode cX5_copy 154 = .ok (.iconst 0, 1) := by decide +kernel
theorem dX5_copy_155 : decode cX5_copy 155 = .ok (.istore 6, 2) := by decide +kernel
theorem dX5_copy_157 : decode cX5_copy 157 = .ok (.iload 6, 2) := by decide +kernel
theorem dX5_copy_159 : decode cX5_copy 159 = .ok (.iload 5, 2) := by decide +kernel
theorem dX5_copy_161 : decode cX5_copy 161 = .ok (.if_icmp .ge 31, 3) := by decide +kernel
theorem dX5_copy_164 : decode cX5_copy 164 = .ok (.aload_n 0, 1) := by decide +kernel
theorem dX5_copy_165 : decode cX5_copy 165 = .ok (.getfield 34, 3) := by decide +kernel
theorem dX5_copy_168 : decode cX5_copy 168 = .ok (.bipush 40, 2) := by decide +kernel
theorem dX5_copy_170 : decode cX5_copy 170 = .ok (.iload_n 3, 1) := by decide +kernel
theorem dX5_copy_171 : decode cX5_copy 171 = .ok (.imul, 1) := by decide +kernel
theorem dX5_copy_172 : decode cX5_copy 172 = .ok (.iload 4, 2) := by decide +kernel
theorem dX5_copy_174 : decode cX5_copy 174 = .ok (.iadd, 1) := by decide +kernel
theorem dX5_copy_175 : decode cX5_copy 175 = .ok (.iload 6, 2) := by decide +kernel
theorem dX5_copy_177 : decode cX5_copy 177 = .ok (.iadd, 1) := by decide +kernel
theorem dX5_copy_178 : decode cX5_copy 178 = .ok (.aload_n 0, 1) := by decide +kernel
theorem dX5_copy_179 : decode cX5_copy 179 = .ok (.getfield 38, 3) := by decide +kernel
theorem dX5_copy_182 : decode cX5_copy 182 = .ok (.iload 6, 2) := by decide +kernel
theorem dX5_copy_184 : decode cX5_copy 184 = .ok (.laload, 1) := by decide +kernel
theorem dX5_copy_185 : decode cX5_copy 185 = .ok (.lastore, 1) := by decide +kernel
theorem dX5_copy_186 : decode cX5_copy 186 = .ok (.iinc 6 1, 3) := by decide +kernel
theorem dX5_copy_189 : decode cX5_copy 189 = .ok (.goto (-32), 3) := by decide +kernel
theorem dX5_copy_192 : decode cX5_copy 192 = .ok (.iload 5, 2) := by decide +kernel
theorem dX5_copy_194 : decode cX5_copy 194 = .ok (.ireturn, 1) := by decide +kernel
theorem dX5_lays_0 : decode cX5_lays 0 = .ok (.aload_n 0, 1) := by decide +kernel
theorem dX5_lays_1 : decode cX5_lays 1 = .ok (.iload_n 1, 1) := by decide +kernel
theorem dX5_lays_2 : decode cX5_lays 2 = .ok (.invokevirtual 318, 3) := by decide +kernel
theorem dX5_lays_5 : decode cX5_lays 5 = .ok (.istore_n 2, 1) := by decide +kernel
theorem dX5_lays_6 : decode cX5_lays 6 = .ok (.iload_n 2, 1) := by decide +kernel
theorem dX5_lays_7 : decode cX5_lays 7 = .ok (.ifCond .eq 9, 3) := by decide +kernel
theorem dX5_lays_10 : decode cX5_lays 10 = .ok (.aload_n 0, 1) := by decide +kernel
theorem dX5_lays_11 : decode cX5_lays 11 = .ok (.iload_n 2, 1) := by decide +kernel
theorem dX5_lays_12 : decode cX5_lays 12 = .ok (.invokevirtual 74, 3) := by decide +kernel
theorem dX5_lays_15 : decode cX5_lays 15 = .ok (.ireturn, 1) := by decide +kernel
theorem dX5_lays_16 : decode cX5_lays 16 = .ok (.iconst 0, 1) := by decide +kernel
theorem dX5_lays_17 : decode cX5_lays 17 = .ok (.istore_n 3, 1) := by decide +kernel
theorem dX5_lays_18 : decode cX5_lays 18 = .ok (.iconst 0, 1) := by decide +kernel
theorem dX5_lays_19 : decode cX5_lays 19 = .ok (.istore 4, 2) := by decide +kernel
theorem dX5_lays_21 : decode cX5_lays 21 = .ok (.iload 4, 2) := by decide +kernel
theorem dX5_lays_23 : decode cX5_lays 23 = .ok (.aload_n 0, 1) := by decide +kernel
theorem dX5_lays_24 : decode cX5_lays 24 = .ok (.getfield 31, 3) := by decide +kernel
theorem dX5_lays_27 : decode cX5_lays 27 = .ok (.iload_n 1, 1) := by decide +kernel
theorem dX5_lays_28 : decode cX5_lays 28 = .ok (.iaload, 1) := by decide +kernel
theorem dX5_lays_29 : decode cX5_lays 29 = .ok (.if_icmp .ge 89, 3) := by decide +kernel
theorem dX5_lays_32 : decode cX5_lays 32 = .ok (.iload 4, 2) := by decide +kernel
theorem dX5_lays_34 : decode cX5_lays 34 = .ok (.bipush 8, 2) := by decide +kernel
theorem dX5_lays_36 : decode cX5_lays 36 = .ok (.if_icmp .ge 82, 3) := by decide +kernel
theorem dX5_lays_39 : decode cX5_lays 39 = .ok (.aload_n 0, 1) := by decide +kernel
theorem dX5_lays_40 : decode cX5_lays 40 = .ok (.getfield 34, 3) := by decide +kernel
theorem dX5_lays_43 : decode cX5_lays 43 = .ok (.bipush 40, 2) := by decide +kernel
theorem dX5_lays_45 : decode cX5_lays 45 = .ok (.iload_n 1, 1) := by decide +kernel
theorem dX5_lays_46 : decode cX5_lays 46 = .ok (.imul, 1) := by decide +kernel
theorem dX5_lays_47 : decode cX5_lays 47 = .ok (.iload 4, 2) := by decide +kernel
theorem dX5_lays_49 : decode cX5_lays 49 = .ok (.iadd, 1) := by decide +kernel
theorem dX5_lays_50 : decode cX5_lays 50 = .ok (.laload, 1) := by decide +kernel
theorem dX5_lays_51 : decode cX5_lays 51 = .ok (.lconst 0, 1) := by decide +kernel
theorem dX5_lays_52 : decode cX5_lays 52 = .ok (.ldc2_w 65, 3) := by decide +kernel
theorem dX5_lays_55 : decode cX5_lays 55 = .ok (.invokestatic 48, 3) := by decide +kernel
theorem dX5_lays_58 : decode cX5_lays 58 = .ok (.istore 5, 2) := by decide +kernel
theorem dX5_lays_60 : decode cX5_lays 60 = .ok (.aload_n 0, 1) := by decide +kernel
theorem dX5_lays_61 : decode cX5_lays 61 = .ok (.getfield 7, 3) := by decide +kernel
theorem dX5_lays_64 : decode cX5_lays 64 = .ok (.iload 4, 2) := by decide +kernel
theorem dX5_lays_66 : decode cX5_lays 66 = .ok (.iconst 2, 1) := by decide +kernel
theorem dX5_lays_67 : decode cX5_lays 67 = .ok (.invokestatic 41, 3) := by decide +kernel
theorem dX5_lays_70 : decode cX5_lays 70 = .ok (.iload 5, 2) := by decide +kernel
theorem dX5_lays_72 : decode cX5_lays 72 = .ok (.ifCond .eq 19, 3) := by decide +kernel
theorem dX5_lays_75 : decode cX5_lays 75 = .ok (.aload_n 0, 1) := by decide +kernel
theorem dX5_lays_76 : decode cX5_lays 76 = .ok (.getfield 34, 3) := by decide +kernel
theorem dX5_lays_79 : decode cX5_lays 79 = .ok (.bipush 40, 2) := by decide +kernel
theorem dX5_lays_81 : decode cX5_lays 81 = .ok (.iload_n 1, 1) := by decide +kernel
theorem dX5_lays_82 : decode cX5_lays 82 = .ok (.imul, 1) := by decide +kernel
theorem dX5_lays_83 : decode cX5_lays 83 = .ok (.iload 4, 2) := by decide +kernel
theorem dX5_lays_85 : decode cX5_lays 85 = .ok (.iadd, 1) := by decide +kernel
theorem dX5_lays_86 : decode cX5_lays 86 = .ok (.laload, 1) := by decide +kernel
theorem dX5_lays_87 : decode cX5_lays 87 = .ok (.l2i, 1) := by decide +kernel
theorem dX5_lays_88 : decode cX5_lays 88 = .ok (.goto 10, 3) := by decide +kernel
theorem dX5_lays_91 : decode cX5_lays 91 = .ok (.aload_n 0, 1) := by decide +kernel
theorem dX5_lays_92 : decode cX5_lays 92 = .ok (.iload 4, 2) := by decide +kernel
theorem dX5_lays_94 : decode cX5_lays 94 = .ok (.iconst 2, 1) := by decide +kernel
theorem dX5_lays_95 : decode cX5_lays 95 = .ok (.invokevirtual 84, 3) := by decide +kernel
theorem dX5_lays_98 : decode cX5_lays 98 = .ok (.iastore, 1) := by decide +kernel
theorem dX5_lays_99 : decode cX5_lays 99 = .ok (.iload_n 3, 1) := by decide +kernel
theorem dX5_lays_100 : decode cX5_lays 100 = .ok (.iload 5, 2) := by decide +kernel
theorem dX5_lays_102 : decode cX5_lays 102 = .ok (.ifCond .eq 7, 3) := by decide +kernel
theorem dX5_lays_105 : decode cX5_lays 105 = .ok (.iconst 1, 1) := by decide +kernel
theorem dX5_lays_106 : decode cX5_lays 106 = .ok (.goto 4, 3) := by decide +kernel
theorem dX5_lays_109 : decode cX5_lays 109 = .ok (.iconst 0, 1) := by decide +kernel
theorem dX5_lays_110 : decode cX5_lays 110 = .ok (.iadd, 1) := by decide +kernel
theorem dX5_lays_111 : decode cX5_lays 111 = .ok (.istore_n 3, 1) := by decide +kernel
theorem dX5_lays_112 : decode cX5_lays 112 = .ok (.iinc 4 1, 3) := by decide +kernel
theorem dX5_lays_115 : decode cX5_lays 115 = .ok (.goto (-94), 3) := by decide +kernel
theorem dX5_lays_118 : decode cX5_lays 118 = .ok (.iload_n 3, 1) := by decide +kernel
theorem dX5_lays_119 : decode cX5_lays 119 = .ok (.ireturn, 1) := by decide +kernel
theorem dX5_wrongBook_0 : decode cX5_wrongBook 0 = .ok (.aload_n 0, 1) := by decide +kernel
theorem dX5_wrongBook_1 : decode cX5_wrongBook 1 = .ok (.iload_n 1, 1) := by decide +kernel
theorem dX5_wrongBook_2 : decode cX5_wrongBook 2 = .ok (.invokevirtual 318, 3) := by decide +kernel
theorem dX5_wrongBook_5 : decode cX5_wrongBook 5 = .ok (.istore_n 3, 1) := by decide +kernel
theorem dX5_wrongBook_6 : decode cX5_wrongBook 6 = .ok (.iload_n 3, 1) := by decide +kernel
theorem dX5_wrongBook_7 : decode cX5_wrongBook 7 = .ok (.ifCond .eq 7, 3) := by decide +kernel
theorem dX5_wrongBook_10 : decode cX5_wrongBook 10 = .ok (.iload_n 3, 1) := by decide +kernel
theorem dX5_wrongBook_11 : decode cX5_wrongBook 11 = .ok (.goto 16, 3) := by decide +kernel
theorem dX5_wrongBook_14 : decode cX5_wrongBook 14 = .ok (.iload_n 2, 1) := by decide +kernel
theorem dX5_wrongBook_15 : decode cX5_wrongBook 15 = .ok (.invokestatic 67, 3) := by decide +kernel
theorem dX5_wrongBook_18 : decode cX5_wrongBook 18 = .ok (.ifCond .eq 7, 3) := by decide +kernel
theorem dX5_wrongBook_21 : decode cX5_wrongBook 21 = .ok (.iconst 0, 1) := by decide +kernel
theorem dX5_wrongBook_22 : decode cX5_wrongBook 22 = .ok (.goto 5, 3) := by decide +kernel
theorem dX5_wrongBook_25 : decode cX5_wrongBook 25 = .ok (.ldc 45, 2) := by decide +kernel
theorem dX5_wrongBook_27 : decode cX5_wrongBook 27 = .ok (.ireturn, 1) := by decide +kernel
theorem dX5_book_0 : decode cX5_book 0 = .ok (.aload_n 0, 1) := by decide +kernel
theorem dX5_book_1 : decode cX5_book 1 = .ok (.iload_n 1, 1) := by decide +kernel
theorem dX5_book_2 : decode cX5_book 2 = .ok (.iload_n 2, 1) := by decide +kernel
theorem dX5_book_3 : decode cX5_book 3 = .ok (.invokevirtual 325, 3) := by decide +kernel
theorem dX5_book_6 : decode cX5_book 6 = .ok (.istore_n 3, 1) := by decide +kernel
theorem dX5_book_7 : decode cX5_book 7 = .ok (.iload_n 3, 1) := by decide +kernel
theorem dX5_book_8 : decode cX5_book 8 = .ok (.ifCond .eq 9, 3) := by decide +kernel
theorem dX5_book_11 : decode cX5_book 11 = .ok (.aload_n 0, 1) := by decide +kernel
theorem dX5_book_12 : decode cX5_book 12 = .ok (.iload_n 3, 1) := by decide +kernel
theorem dX5_book_13 : decode cX5_book 13 = .ok (.invokevirtual 74, 3) := by decide +kernel
theorem dX5_book_16 : decode cX5_book 16 = .ok (.ireturn, 1) := by decide +kernel
theorem dX5_book_17 : decode cX5_book 17 = .ok (.aload_n 0, 1) := by decide +kernel
theorem dX5_book_18 : decode cX5_book 18 = .ok (.invokevirtual 184, 3) := by decide +kernel
theorem dX5_book_21 : decode cX5_book 21 = .ok (.iconst 0, 1) := by decide +kernel
theorem dX5_book_22 : decode cX5_book 22 = .ok (.istore 4, 2) := by decide +kernel
theorem dX5_book_24 : decode cX5_book 24 = .ok (.iload 4, 2) := by decide +kernel
theorem dX5_book_26 : decode cX5_book 26 = .ok (.aload_n 0, 1) := by decide +kernel
theorem dX5_book_27 : decode cX5_book 27 = .ok (.getfield 31, 3) := by decide +kernel
theorem dX5_book_30 : decode cX5_book 30 = .ok (.iload_n 1, 1) := by decide +kernel
theorem dX5_book_31 : decode cX5_book 31 = .ok (.iaload, 1) := by decide +kernel
theorem dX5_book_32 : decode cX5_book 32 = .ok (.if_icmp .ge 41, 3) := by decide +kernel
theorem dX5_book_35 : decode cX5_book 35 = .ok (.aload_n 0, 1) := by decide +kernel
theorem dX5_book_36 : decode cX5_book 36 = .ok (.getfield 34, 3) := by decide +kernel
theorem dX5_book_39 : decode cX5_book 39 = .ok (.bipush 40, 2) := by decide +kernel
theorem dX5_book_41 : decode cX5_book 41 = .ok (.iload_n 1, 1) := by decide +kernel
theorem dX5_book_42 : decode cX5_book 42 = .ok (.imul, 1) := by decide +kernel
theorem dX5_book_43 : decode cX5_book 43 = .ok (.iload 4, 2) := by decide +kernel
theorem dX5_book_45 : decode cX5_book 45 = .ok (.iadd, 1) := by decide +kernel
theorem dX5_book_46 : decode cX5_book 46 = .ok (.aload_n 0, 1) := by decide +kernel
theorem dX5_book_47 : decode cX5_book 47 = .ok (.getfield 28, 3) := by decide +kernel
theorem dX5_book_50 : decode cX5_book 50 = .ok (.iload_n 1, 1) := by decide +kernel
theorem dX5_book_51 : decode cX5_book 51 = .ok (.iaload, 1) := by decide +kernel
theorem dX5_book_52 : decode cX5_book 52 = .ok (.aload_n 0, 1) := by decide +kernel
theorem dX5_book_53 : decode cX5_book 53 = .ok (.iload_n 2, 1) := by decide +kernel
theorem dX5_book_54 : decode cX5_book 54 = .ok (.iconst 1, 1) := by decide +kernel
theorem dX5_book_55 : decode cX5_book 55 = .ok (.invokevirtual 84, 3) := by decide +kernel
theorem dX5_book_58 : decode cX5_book 58 = .ok (.i2l, 1) := by decide +kernel
theorem dX5_book_59 : decode cX5_book 59 = .ok (.invokestatic 321, 3) := by decide +kernel
theorem dX5_book_62 : decode cX5_book 62 = .ok (.lastore, 1) := by decide +kernel
theorem dX5_book_63 : decode cX5_book 63 = .ok (.aload_n 0, 1) := by decide +kernel
theorem dX5_book_64 : decode cX5_book 64 = .ok (.invokevirtual 163, 3) := by decide +kernel
theorem dX5_book_67 : decode cX5_book 67 = .ok (.iinc 4 1, 3) := by decide +kernel
theorem dX5_book_70 : decode cX5_book 70 = .ok (.goto (-46), 3) := by decide +kernel
theorem dX5_book_73 : decode cX5_book 73 = .ok (.aload_n 0, 1) := by decide +kernel
theorem dX5_book_74 : decode cX5_book 74 = .ok (.aload_n 0, 1) := by decide +kernel
theorem dX5_book_75 : decode cX5_book 75 = .ok (.getfield 31, 3) := by decide +kernel
theorem dX5_book_78 : decode cX5_book 78 = .ok (.iload_n 1, 1) := by decide +kernel
theorem dX5_book_79 : decode cX5_book 79 = .ok (.iaload, 1) := by decide +kernel
theorem dX5_book_80 : decode cX5_book 80 = .ok (.invokevirtual 187, 3) := by decide +kernel
theorem dX5_book_83 : decode cX5_book 83 = .ok (.ireturn, 1) := by decide +kernel
theorem dX5_isBook_0 : decode cX5_isBook 0 = .ok (.iconst 0, 1) := by decide +kernel
theorem dX5_isBook_1 : decode cX5_isBook 1 = .ok (.istore_n 3, 1) := by decide +kernel
theorem dX5_isBook_2 : decode cX5_isBook 2 = .ok (.iload_n 3, 1) := by decide +kernel
theorem dX5_isBook_3 : decode cX5_isBook 3 = .ok (.aload_n 0, 1) := by decide +kernel
theorem dX5_isBook_4 : decode cX5_isBook 4 = .ok (.getfield 31, 3) := by decide +kernel
theorem dX5_isBook_7 : decode cX5_isBook 7 = .ok (.iload_n 1, 1) := by decide +kernel
theorem dX5_isBook_8 : decode cX5_isBook 8 = .ok (.iaload, 1) := by decide +kernel
theorem dX5_isBook_9 : decode cX5_isBook 9 = .ok (.if_icmp .ge 37, 3) := by decide +kernel
theorem dX5_isBook_12 : decode cX5_isBook 12 = .ok (.aload_n 0, 1) := by decide +kernel
theorem dX5_isBook_13 : decode cX5_isBook 13 = .ok (.getfield 34, 3) := by decide +kernel
theorem dX5_isBook_16 : decode cX5_isBook 16 = .ok (.bipush 40, 2) := by decide +kernel
theorem dX5_isBook_18 : decode cX5_isBook 18 = .ok (.iload_n 1, 1) := by decide +kernel
theorem dX5_isBook_19 : decode cX5_isBook 19 = .ok (.imul, 1) := by decide +kernel
theorem dX5_isBook_20 : decode cX5_isBook 20 = .ok (.iload_n 3, 1) := by decide +kernel
theorem dX5_isBook_21 : decode cX5_isBook 21 = .ok (.iadd, 1) := by decide +kernel
theorem dX5_isBook_22 : decode cX5_isBook 22 = .ok (.laload, 1) := by decide +kernel
theorem dX5_isBook_23 : decode cX5_isBook 23 = .ok (.aload_n 0, 1) := by decide +kernel
theorem dX5_isBook_24 : decode cX5_isBook 24 = .ok (.iload_n 2, 1) := by decide +kernel
theorem dX5_isBook_25 : decode cX5_isBook 25 = .ok (.iconst 1, 1) := by decide +kernel
theorem dX5_isBook_26 : decode cX5_isBook 26 = .ok (.invokevirtual 84, 3) := by decide +kernel
theorem dX5_isBook_29 : decode cX5_isBook 29 = .ok (.i2l, 1) := by decide +kernel
theorem dX5_isBook_30 : decode cX5_isBook 30 = .ok (.lcmp, 1) := by decide +kernel
theorem dX5_isBook_31 : decode cX5_isBook 31 = .ok (.ifCond .eq 5, 3) := by decide +kernel
theorem dX5_isBook_34 : decode cX5_isBook 34 = .ok (.iconst 0, 1) := by decide +kernel
theorem dX5_isBook_35 : decode cX5_isBook 35 = .ok (.ireturn, 1) := by decide +kernel
theorem dX5_isBook_36 : decode cX5_isBook 36 = .ok (.aload_n 0, 1) := by decide +kernel
theorem dX5_isBook_37 : decode cX5_isBook 37 = .ok (.invokevirtual 163, 3) := by decide +kernel
theorem dX5_isBook_40 : decode cX5_isBook 40 = .ok (.iinc 3 1, 3) := by decide +kernel
theorem dX5_isBook_43 : decode cX5_isBook 43 = .ok (.goto (-41), 3) := by decide +kernel
theorem dX5_isBook_46 : decode cX5_isBook 46 = .ok (.iconst 1, 1) := by decide +kernel
theorem dX5_isBook_47 : decode cX5_isBook 47 = .ok (.ireturn, 1) := by decide +kernel
theorem dX5_read_0 : decode cX5_read 0 = .ok (.aload_n 0, 1) := by decide +kernel
theorem dX5_read_1 : decode cX5_read 1 = .ok (.iload_n 1, 1) := by decide +kernel
theorem dX5_read_2 : decode cX5_read 2 = .ok (.iload_n 2, 1) := by decide +kernel
theorem dX5_read_3 : decode cX5_read 3 = .ok (.invokevirtual 325, 3) := by decide +kernel
theorem dX5_read_6 : decode cX5_read 6 = .ok (.istore_n 3, 1) := by decide +kernel
theorem dX5_read_7 : decode cX5_read 7 = .ok (.iload_n 3, 1) := by decide +kernel
theorem dX5_read_8 : decode cX5_read 8 = .ok (.ifCond .eq 9, 3) := by decide +kernel
theorem dX5_read_11 : decode cX5_read 11 = .ok (.aload_n 0, 1) := by decide +kernel
theorem dX5_read_12 : decode cX5_read 12 = .ok (.iload_n 3, 1) := by decide +kernel
theorem dX5_read_13 : decode cX5_read 13 = .ok (.invokevirtual 74, 3) := by decide +kernel
theorem dX5_read_16 : decode cX5_read 16 = .ok (.ireturn, 1) := by decide +kernel
theorem dX5_read_17 : decode cX5_read 17 = .ok (.aload_n 0, 1) := by decide +kernel
theorem dX5_read_18 : decode cX5_read 18 = .ok (.iload_n 2, 1) := by decide +kernel
theorem dX5_read_19 : decode cX5_read 19 = .ok (.invokevirtual 87, 3) := by decide +kernel
theorem dX5_read_22 : decode cX5_read 22 = .ok (.istore 4, 2) := by decide +kernel
theorem dX5_read_24 : decode cX5_read 24 = .ok (.aload_n 0, 1) := by decide +kernel
theorem dX5_read_25 : decode cX5_read 25 = .ok (.invokevirtual 184, 3) := by decide +kernel
theorem dX5_read_28 : decode cX5_read 28 = .ok (.iconst 0, 1) := by decide +kernel
theorem dX5_read_29 : decode cX5_read 29 = .ok (.istore 5, 2) := by decide +kernel
theorem dX5_read_31 : decode cX5_read 31 = .ok (.iconst 0, 1) := by decide +kernel
theorem dX5_read_32 : decode cX5_read 32 = .ok (.istore 6, 2) := by decide +kernel
theorem dX5_read_34 : decode cX5_read 34 = .ok (.iload 6, 2) := by decide +kernel
theorem dX5_read_36 : decode cX5_read 36 = .ok (.bipush 6, 2) := by decide +kernel
theorem dX5_read_38 : decode cX5_read 38 = .ok (.aload_n 0, 1) := by decide +kernel
theorem dX5_read_39 : decode cX5_read 39 = .ok (.getfield 7, 3) := by decide +kernel
theorem dX5_read_42 : decode cX5_read 42 = .ok (.iconst 0, 1) := by decide +kernel
theorem dX5_read_43 : decode cX5_read 43 = .ok (.iaload, 1) := by decide +kernel
theorem dX5_read_44 : decode cX5_read 44 = .ok (.imul, 1) := by decide +kernel
theorem dX5_read_45 : decode cX5_read 45 = .ok (.if_icmp .ge 65, 3) := by decide +kernel
theorem dX5_read_48 : decode cX5_read 48 = .ok (.iload 4, 2) := by decide +kernel
theorem dX5_read_50 : decode cX5_read 50 = .ok (.iload 6, 2) := by decide +kernel
theorem dX5_read_52 : decode cX5_read 52 = .ok (.bipush 6, 2) := by decide +kernel
theorem dX5_read_54 : decode cX5_read 54 = .ok (.idiv, 1) := by decide +kernel
theorem dX5_read_55 : decode cX5_read 55 = .ok (.ishr, 1) := by decide +kernel
theorem dX5_read_56 : decode cX5_read 56 = .ok (.iconst 1, 1) := by decide +kernel
theorem dX5_read_57 : decode cX5_read 57 = .ok (.iand, 1) := by decide +kernel
theorem dX5_read_58 : decode cX5_read 58 = .ok (.iconst 1, 1) := by decide +kernel
theorem dX5_read_59 : decode cX5_read 59 = .ok (.if_icmp .ne 45, 3) := by decide +kernel
theorem dX5_read_62 : decode cX5_read 62 = .ok (.aload_n 0, 1) := by decide +kernel
theorem dX5_read_63 : decode cX5_read 63 = .ok (.getfield 7, 3) := by decide +kernel
theorem dX5_read_66 : decode cX5_read 66 = .ok (.iload 6, 2) := by decide +kernel
theorem dX5_read_68 : decode cX5_read 68 = .ok (.bipush 6, 2) := by decide +kernel
theorem dX5_read_70 : decode cX5_read 70 = .ok (.idiv, 1) := by decide +kernel
theorem dX5_read_71 : decode cX5_read 71 = .ok (.iconst 0, 1) := by decide +kernel
theorem dX5_read_72 : decode cX5_read 72 = .ok (.invokestatic 56, 3) := by decide +kernel
theorem dX5_read_75 : decode cX5_read 75 = .ok (.iload 6, 2) := by decide +kernel
theorem dX5_read_77 : decode cX5_read 77 = .ok (.bipush 6, 2) := by decide +kernel
theorem dX5_read_79 : decode cX5_read 79 = .ok (.irem, 1) := by decide +kernel
theorem dX5_read_80 : decode cX5_read 80 = .ok (.iastore, 1) := by decide +kernel
theorem dX5_read_81 : decode cX5_read 81 = .ok (.aload_n 0, 1) := by decide +kernel
theorem dX5_read_82 : decode cX5_read 82 = .ok (.iload 5, 2) := by decide +kernel
theorem dX5_read_84 : decode cX5_read 84 = .ok (.aload_n 0, 1) := by decide +kernel
theorem dX5_read_85 : decode cX5_read 85 = .ok (.iload_n 1, 1) := by decide +kernel
theorem dX5_read_86 : decode cX5_read 86 = .ok (.iload_n 2, 1) := by decide +kernel
theorem dX5_read_87 : decode cX5_read 87 = .ok (.invokevirtual 328, 3) := by decide +kernel
theorem dX5_read_90 : decode cX5_read 90 = .ok (.ifCond .eq 7, 3) := by decide +kernel
theorem dX5_read_93 : decode cX5_read 93 = .ok (.iconst 1, 1) := by decide +kernel
theorem dX5_read_94 : decode cX5_read 94 = .ok (.goto 4, 3) := by decide +kernel
theorem dX5_read_97 : decode cX5_read 97 = .ok (.iconst 0, 1) := by decide +kernel
theorem dX5_read_98 : decode cX5_read 98 = .ok (.iadd, 1) := by decide +kernel
theorem dX5_read_99 : decode cX5_read 99 = .ok (.invokevirtual 187, 3) := by decide +kernel
theorem dX5_read_102 : decode cX5_read 102 = .ok (.istore 5, 2) := by decide +kernel
theorem dX5_read_104 : decode cX5_read 104 = .ok (.iinc 6 1, 3) := by decide +kernel
theorem dX5_read_107 : decode cX5_read 107 = .ok (.goto (-73), 3) := by decide +kernel
theorem dX5_read_110 : decode cX5_read 110 = .ok (.iload 5, 2) := by decide +kernel
theorem dX5_read_112 : decode cX5_read 112 = .ok (.ireturn, 1) := by decide +kernel
theorem dX5_image_0 : decode cX5_image 0 = .ok (.iconst 0, 1) := by decide +kernel
theorem dX5_image_1 : decode cX5_image 1 = .ok (.istore_n 1, 1) := by decide +kernel
theorem dX5_image_2 : decode cX5_image 2 = .ok (.iload_n 1, 1) := by decide +kernel
theorem dX5_image_3 : decode cX5_image 3 = .ok (.bipush 77, 2) := by decide +kernel
theorem dX5_image_5 : decode cX5_image 5 = .ok (.if_icmp .ge 21, 3) := by decide +kernel
theorem dX5_image_8 : decode cX5_image 8 = .ok (.aload_n 0, 1) := by decide +kernel
theorem dX5_image_9 : decode cX5_image 9 = .ok (.getfield 13, 3) := by decide +kernel
theorem dX5_image_12 : decode cX5_image 12 = .ok (.iload_n 1, 1) := by decide +kernel
theorem dX5_image_13 : decode cX5_image 13 = .ok (.aload_n 0, 1) := by decide +kernel
theorem dX5_image_14 : decode cX5_image 14 = .ok (.getfield 7, 3) := by decide +kernel
theorem dX5_image_17 : decode cX5_image 17 = .ok (.iload_n 1, 1) := by decide +kernel
theorem dX5_image_18 : decode cX5_image 18 = .ok (.iaload, 1) := by decide +kernel
theorem dX5_image_19 : decode cX5_image 19 = .ok (.iastore, 1) := by decide +kernel
theorem dX5_image_20 : decode cX5_image 20 = .ok (.iinc 1 1, 3) := by decide +kernel
theorem dX5_image_23 : decode cX5_image 23 = .ok (.goto (-21), 3) := by decide +kernel
theorem dX5_image_26 : decode cX5_image 26 = .ok (.aload_n 0, 1) := by decide +kernel
theorem dX5_image_27 : decode cX5_image 27 = .ok (.iconst 1, 1) := by decide +kernel
theorem dX5_image_28 : decode cX5_image 28 = .ok (.putfield 331, 3) := by decide +kernel
theorem dX5_image_31 : decode cX5_image 31 = .ok (.iconst 1, 1) := by decide +kernel
theorem dX5_image_32 : decode cX5_image 32 = .ok (.ireturn, 1) := by decide +kernel
theorem dX5_undo_0 : decode cX5_undo 0 = .ok (.aload_n 0, 1) := by decide +kernel
theorem dX5_undo_1 : decode cX5_undo 1 = .ok (.getfield 331, 3) := by decide +kernel
theorem dX5_undo_4 : decode cX5_undo 4 = .ok (.ifCond .ne 10, 3) := by decide +kernel
theorem dX5_undo_7 : decode cX5_undo 7 = .ok (.aload_n 0, 1) := by decide +kernel
theorem dX5_undo_8 : decode cX5_undo 8 = .ok (.ldc 196, 2) := by decide +kernel
theorem dX5_undo_10 : decode cX5_undo 10 = .ok (.invokevirtual 74, 3) := by decide +kernel
theorem dX5_undo_13 : decode cX5_undo 13 = .ok (.ireturn, 1) := by decide +kernel
theorem dX5_undo_14 : decode cX5_undo 14 = .ok (.iconst 0, 1) := by decide +kernel
theorem dX5_undo_15 : decode cX5_undo 15 = .ok (.istore_n 1, 1) := by decide +kernel
theorem dX5_undo_16 : decode cX5_undo 16 = .ok (.iload_n 1, 1) := by decide +kernel
theorem dX5_undo_17 : decode cX5_undo 17 = .ok (.bipush 77, 2) := by decide +kernel
theorem dX5_undo_19 : decode cX5_undo 19 = .ok (.if_icmp .ge 21, 3) := by decide +kernel
theorem dX5_undo_22 : decode cX5_undo 22 = .ok (.aload_n 0, 1) := by decide +kernel
theorem dX5_undo_23 : decode cX5_undo 23 = .ok (.getfield 7, 3) := by decide +kernel
theorem dX5_undo_26 : decode cX5_undo 26 = .ok (.iload_n 1, 1) := by decide +kernel
theorem dX5_undo_27 : decode cX5_undo 27 = .ok (.aload_n 0, 1) := by decide +kernel
theorem dX5_undo_28 : decode cX5_undo 28 = .ok (.getfield 13, 3) := by decide +kernel
theorem dX5_undo_31 : decode cX5_undo 31 = .ok (.iload_n 1, 1) := by decide +kernel
theorem dX5_undo_32 : decode cX5_undo 32 = .ok (.iaload, 1) := by decide +kernel
theorem dX5_undo_33 : decode cX5_undo 33 = .ok (.iastore, 1) := by decide +kernel
theorem dX5_undo_34 : decode cX5_undo 34 = .ok (.iinc 1 1, 3) := by decide +kernel
theorem dX5_undo_37 : decode cX5_undo 37 = .ok (.goto (-21), 3) := by decide +kernel
theorem dX5_undo_40 : decode cX5_undo 40 = .ok (.aload_n 0, 1) := by decide +kernel
theorem dX5_undo_41 : decode cX5_undo 41 = .ok (.getfield 7, 3) := by decide +kernel
theorem dX5_undo_44 : decode cX5_undo 44 = .ok (.iconst 0, 1) := by decide +kernel
theorem dX5_undo_45 : decode cX5_undo 45 = .ok (.iaload, 1) := by decide +kernel
theorem dX5_undo_46 : decode cX5_undo 46 = .ok (.ireturn, 1) := by decide +kernel
theorem dX5_tear_0 : decode cX5_tear 0 = .ok (.aload_n 0, 1) := by decide +kernel
theorem dX5_tear_1 : decode cX5_tear 1 = .ok (.getfield 331, 3) := by decide +kernel
theorem dX5_tear_4 : decode cX5_tear 4 = .ok (.ifCond .eq 7, 3) := by decide +kernel
theorem dX5_tear_7 : decode cX5_tear 7 = .ok (.iconst 1, 1) := by decide +kernel
theorem dX5_tear_8 : decode cX5_tear 8 = .ok (.goto 4, 3) := by decide +kernel
theorem dX5_tear_11 : decode cX5_tear 11 = .ok (.iconst 0, 1) := by decide +kernel
theorem dX5_tear_12 : decode cX5_tear 12 = .ok (.istore_n 1, 1) := by decide +kernel
theorem dX5_tear_13 : decode cX5_tear 13 = .ok (.aload_n 0, 1) := by decide +kernel
theorem dX5_tear_14 : decode cX5_tear 14 = .ok (.iconst 0, 1) := by decide +kernel
theorem dX5_tear_15 : decode cX5_tear 15 = .ok (.putfield 331, 3) := by decide +kernel
theorem dX5_tear_18 : decode cX5_tear 18 = .ok (.iload_n 1, 1) := by decide +kernel
theorem dX5_tear_19 : decode cX5_tear 19 = .ok (.ireturn, 1) := by decide +kernel
theorem dX5_bedsAll_0 : decode cX5_bedsAll 0 = .ok (.iconst 0, 1) := by decide +kernel
theorem dX5_bedsAll_1 : decode cX5_bedsAll 1 = .ok (.istore_n 1, 1) := by decide +kernel
theorem dX5_bedsAll_2 : decode cX5_bedsAll 2 = .ok (.iconst 0, 1) := by decide +kernel
theorem dX5_bedsAll_3 : decode cX5_bedsAll 3 = .ok (.istore_n 2, 1) := by decide +kernel
theorem dX5_bedsAll_4 : decode cX5_bedsAll 4 = .ok (.iload_n 2, 1) := by decide +kernel
theorem dX5_bedsAll_5 : decode cX5_bedsAll 5 = .ok (.bipush 8, 2) := by decide +kernel
theorem dX5_bedsAll_7 : decode cX5_bedsAll 7 = .ok (.if_icmp .ge 18, 3) := by decide +kernel
theorem dX5_bedsAll_10 : decode cX5_bedsAll 10 = .ok (.iload_n 1, 1) := by decide +kernel
theorem dX5_bedsAll_11 : decode cX5_bedsAll 11 = .ok (.aload_n 0, 1) := by decide +kernel
theorem dX5_bedsAll_12 : decode cX5_bedsAll 12 = .ok (.iload_n 2, 1) := by decide +kernel
theorem dX5_bedsAll_13 : decode cX5_bedsAll 13 = .ok (.iconst 0, 1) := by decide +kernel
theorem dX5_bedsAll_14 : decode cX5_bedsAll 14 = .ok (.invokevirtual 84, 3) := by decide +kernel
theorem dX5_bedsAll_17 : decode cX5_bedsAll 17 = .ok (.iadd, 1) := by decide +kernel
theorem dX5_bedsAll_18 : decode cX5_bedsAll 18 = .ok (.istore_n 1, 1) := by decide +kernel
theorem dX5_bedsAll_19 : decode cX5_bedsAll 19 = .ok (.iinc 2 1, 3) := by decide +kernel
theorem dX5_bedsAll_22 : decode cX5_bedsAll 22 = .ok (.goto (-18), 3) := by decide +kernel
theorem dX5_bedsAll_25 : decode cX5_bedsAll 25 = .ok (.iload_n 1, 1) := by decide +kernel
theorem dX5_bedsAll_26 : decode cX5_bedsAll 26 = .ok (.ireturn, 1) := by decide +kernel
theorem dX5_count_0 : decode cX5_count 0 = .ok (.iload_n 1, 1) := by decide +kernel
theorem dX5_count_1 : decode cX5_count 1 = .ok (.tableswitch 64 0 3 #[31, 38, 43, 59], 31) := by decide +kernel
theorem dX5_count_32 : decode cX5_count 32 = .ok (.aload_n 0, 1) := by decide +kernel
theorem dX5_count_33 : decode cX5_count 33 = .ok (.getfield 7, 3) := by decide +kernel
theorem dX5_count_36 : decode cX5_count 36 = .ok (.iconst 0, 1) := by decide +kernel
theorem dX5_count_37 : decode cX5_count 37 = .ok (.iaload, 1) := by decide +kernel
theorem dX5_count_38 : decode cX5_count 38 = .ok (.ireturn, 1) := by decide +kernel
theorem dX5_count_39 : decode cX5_count 39 = .ok (.aload_n 0, 1) := by decide +kernel
theorem dX5_count_40 : decode cX5_count 40 = .ok (.getfield 208, 3) := by decide +kernel
theorem dX5_count_43 : decode cX5_count 43 = .ok (.ireturn, 1) := by decide +kernel
theorem dX5_count_44 : decode cX5_count 44 = .ok (.aload_n 0, 1) := by decide +kernel
theorem dX5_count_45 : decode cX5_count 45 = .ok (.getfield 7, 3) := by decide +kernel
theorem dX5_count_48 : decode cX5_count 48 = .ok (.iconst 0, 1) := by decide +kernel
theorem dX5_count_49 : decode cX5_count 49 = .ok (.iaload, 1) := by decide +kernel
theorem dX5_count_50 : decode cX5_count 50 = .ok (.aload_n 0, 1) := by decide +kernel
theorem dX5_count_51 : decode cX5_count 51 = .ok (.iconst (-1), 1) := by decide +kernel
theorem dX5_count_52 : decode cX5_count 52 = .ok (.invokevirtual 87, 3) := by decide +kernel
theorem dX5_count_55 : decode cX5_count 55 = .ok (.invokestatic 122, 3) := by decide +kernel
theorem dX5_count_58 : decode cX5_count 58 = .ok (.isub, 1) := by decide +kernel
theorem dX5_count_59 : decode cX5_count 59 = .ok (.ireturn, 1) := by decide +kernel
theorem dX5_count_60 : decode cX5_count 60 = .ok (.aload_n 0, 1) := by decide +kernel
theorem dX5_count_61 : decode cX5_count 61 = .ok (.invokevirtual 334, 3) := by decide +kernel
theorem dX5_count_64 : decode cX5_count 64 = .ok (.ireturn, 1) := by decide +kernel
theorem dX5_count_65 : decode cX5_count 65 = .ok (.aload_n 0, 1) := by decide +kernel
theorem dX5_count_66 : decode cX5_count 66 = .ok (.ldc 45, 2) := by decide +kernel
theorem dX5_count_68 : decode cX5_count 68 = .ok (.invokevirtual 74, 3) := by decide +kernel
theorem dX5_count_71 : decode cX5_count 71 = .ok (.ireturn, 1) := by decide +kernel
theorem dX5_status_0 : decode cX5_status 0 = .ok (.iload_n 1, 1) := by decide +kernel
theorem dX5_status_1 : decode cX5_status 1 = .ok (.i2l, 1) := by decide +kernel
theorem dX5_status_2 : decode cX5_status 2 = .ok (.ldc2_w 337, 3) := by decide +kernel
theorem dX5_status_5 : decode cX5_status 5 = .ok (.ldc2_w 339, 3) := by decide +kernel
theorem dX5_status_8 : decode cX5_status 8 = .ok (.invokestatic 48, 3) := by decide +kernel
theorem dX5_status_11 : decode cX5_status 11 = .ok (.ifCond .ne 10, 3) := by decide +kernel
theorem dX5_status_14 : decode cX5_status 14 = .ok (.aload_n 0, 1) := by decide +kernel
theorem dX5_status_15 : decode cX5_status 15 = .ok (.ldc 45, 2) := by decide +kernel
theorem dX5_status_17 : decode cX5_status 17 = .ok (.invokevirtual 74, 3) := by decide +kernel
theorem dX5_status_20 : decode cX5_status 20 = .ok (.ireturn, 1) := by decide +kernel
theorem dX5_status_21 : decode cX5_status 21 = .ok (.iconst 0, 1) := by decide +kernel
theorem dX5_status_22 : decode cX5_status 22 = .ok (.istore_n 2, 1) := by decide +kernel
theorem dX5_status_23 : decode cX5_status 23 = .ok (.iconst 0, 1) := by decide +kernel
theorem dX5_status_24 : decode cX5_status 24 = .ok (.istore_n 3, 1) := by decide +kernel
theorem dX5_status_25 : decode cX5_status 25 = .ok (.iload_n 3, 1) := by decide +kernel
theorem dX5_status_26 : decode cX5_status 26 = .ok (.bipush 7, 2) := by decide +kernel
theorem dX5_status_28 : decode cX5_status 28 = .ok (.if_icmp .ge 31, 3) := by decide +kernel
theorem dX5_status_31 : decode cX5_status 31 = .ok (.iload_n 2, 1) := by decide +kernel
theorem dX5_status_32 : decode cX5_status 32 = .ok (.iload_n 1, 1) := by decide +kernel
theorem dX5_status_33 : decode cX5_status 33 = .ok (.ifCond .lt 8, 3) := by decide +kernel
theorem dX5_status_36 : decode cX5_status 36 = .ok (.iload_n 3, 1) := by decide +kernel
theorem dX5_status_37 : decode cX5_status 37 = .ok (.iload_n 1, 1) := by decide +kernel
theorem dX5_status_38 : decode cX5_status 38 = .ok (.if_icmp .ne 12, 3) := by decide +kernel
theorem dX5_status_41 : decode cX5_status 41 = .ok (.aload_n 0, 1) := by decide +kernel
theorem dX5_status_42 : decode cX5_status 42 = .ok (.getfield 22, 3) := by decide +kernel
theorem dX5_status_45 : decode cX5_status 45 = .ok (.iload_n 3, 1) := by decide +kernel
theorem dX5_status_46 : decode cX5_status 46 = .ok (.iaload, 1) := by decide +kernel
theorem dX5_status_47 : decode cX5_status 47 = .ok (.goto 4, 3) := by decide +kernel
theorem dX5_status_50 : decode cX5_status 50 = .ok (.iconst 0, 1) := by decide +kernel
theorem dX5_status_51 : decode cX5_status 51 = .ok (.iadd, 1) := by decide +kernel
theorem dX5_status_52 : decode cX5_status 52 = .ok (.istore_n 2, 1) := by decide +kernel
theorem dX5_status_53 : decode cX5_status 53 = .ok (.iinc 3 1, 3) := by decide +kernel
theorem dX5_status_56 : decode cX5_status 56 = .ok (.goto (-31), 3) := by decide +kernel
theorem dX5_status_59 : decode cX5_status 59 = .ok (.iload_n 2, 1) := by decide +kernel
theorem dX5_status_60 : decode cX5_status 60 = .ok (.ireturn, 1) := by decide +kernel
end
section
theorem dL_law_0 : decode cL_law 0 = .ok (.new 7, 3) := by decide +kernel
theorem dL_law_3 : decode cL_law 3 = .ok (.dup, 1) := by decide +kernel
theorem dL_law_4 : decode cL_law 4 = .ok (.invokespecial 9, 3) := by decide +kernel
theorem dL_law_7 : decode cL_law 7 = .ok (.astore_n 1, 1) := by decide +kernel
theorem dL_law_8 : decode cL_law 8 = .ok (.new 10, 3) := by decide +kernel
theorem dL_law_11 : decode cL_law 11 = .ok (.dup, 1) := by decide +kernel
theorem dL_law_12 : decode cL_law 12 = .ok (.invokespecial 12, 3) := by decide +kernel
theorem dL_law_15 : decode cL_law 15 = .ok (.astore_n 2, 1) := by decide +kernel
theorem dL_law_16 : decode cL_law 16 = .ok (.iconst 0, 1) := by decide +kernel
theorem dL_law_17 : decode cL_law 17 = .ok (.istore_n 3, 1) := by decide +kernel
theorem dL_law_18 : decode cL_law 18 = .ok (.iload_n 3, 1) := by decide +kernel
theorem dL_law_19 : decode cL_law 19 = .ok (.aload_n 0, 1) := by decide +kernel
theorem dL_law_20 : decode cL_law 20 = .ok (.arraylength, 1) := by decide +kernel
theorem dL_law_21 : decode cL_law 21 = .ok (.bipush 6, 2) := by decide +kernel
theorem dL_law_23 : decode cL_law 23 = .ok (.isub, 1) := by decide +kernel
theorem dL_law_24 : decode cL_law 24 = .ok (.if_icmp .gt 1408, 3) := by decide +kernel
theorem dL_law_27 : decode cL_law 27 = .ok (.aload_n 0, 1) := by decide +kernel
theorem dL_law_28 : decode cL_law 28 = .ok (.iload_n 3, 1) := by decide +kernel
theorem dL_law_29 : decode cL_law 29 = .ok (.iaload, 1) := by decide +kernel
theorem dL_law_30 : decode cL_law 30 = .ok (.bipush 63, 2) := by decide +kernel
theorem dL_law_32 : decode cL_law 32 = .ok (.iand, 1) := by decide +kernel
theorem dL_law_33 : decode cL_law 33 = .ok (.tableswitch 1393 0 40 #[179, 222, 255, 288, 321, 364, 397, 430, 463, 486, 519, 542, 565, 588, 611, 654, 687, 710, 733, 756, 789, 812, 835, 868, 901, 924, 947, 980, 1013, 1026, 1039, 1082, 1156, 1219, 1242, 1275, 1308, 1321, 1334, 1347, 1370], 179) := by decide +kernel
theorem dL_law_212 : decode cL_law 212 = .ok (.aload_n 1, 1) := by decide +kernel
theorem dL_law_213 : decode cL_law 213 = .ok (.aload_n 0, 1) := by decide +kernel
theorem dL_law_214 : decode cL_law 214 = .ok (.iload_n 3, 1) := by decide +kernel
theorem dL_law_215 : decode cL_law 215 = .ok (.iconst 1, 1) := by decide +kernel
theorem dL_law_216 : decode cL_law 216 = .ok (.iadd, 1) := by decide +kernel
theorem dL_law_217 : decode cL_law 217 = .ok (.iaload, 1) := by decide +kernel
theorem dL_law_218 : decode cL_law 218 = .ok (.aload_n 0, 1) := by decide +kernel
theorem dL_law_219 : decode cL_law 219 = .ok (.iload_n 3, 1) := by decide +kernel
theorem dL_law_220 : decode cL_law 220 = .ok (.iconst 2, 1) := by decide +kernel
theorem dL_law_221 : decode cL_law 221 = .ok (.iadd, 1) := by decide +kernel
theorem dL_law_222 : decode cL_law 222 = .ok (.iaload, 1) := by decide +kernel
theorem dL_law_223 : decode cL_law 223 = .ok (.aload_n 0, 1) := by decide +kernel
theorem dL_law_224 : decode cL_law 224 = .ok (.iload_n 3, 1) := by decide +kernel
theorem dL_law_225 : decode cL_law 225 = .ok (.iconst 3, 1) := by decide +kernel
theorem dL_law_226 : decode cL_law 226 = .ok (.iadd, 1) := by decide +kernel
theorem dL_law_227 : decode cL_law 227 = .ok (.iaload, 1) := by decide +kernel
theorem dL_law_228 : decode cL_law 228 = .ok (.invokevirtual 13, 3) := by decide +kernel
theorem dL_law_231 : decode cL_law 231 = .ok (.aload_n 2, 1) := by decide +kernel
theorem dL_law_232 : decode cL_law 232 = .ok (.aload_n 0, 1) := by decide +kernel
theorem dL_law_233 : decode cL_law 233 = .ok (.iload_n 3, 1) := by decide +kernel
theorem dL_law_234 : decode cL_law 234 = .ok (.iconst 1, 1) := by decide +kernel
theorem dL_law_235 : decode cL_law 235 = .ok (.iadd, 1) := by decide +kernel
theorem dL_law_236 : decode cL_law 236 = .ok (.iaload, 1) := by decide +kernel
theorem dL_law_237 : decode cL_law 237 = .ok (.aload_n 0, 1) := by decide +kernel
theorem dL_law_238 : decode cL_law 238 = .ok (.iload_n 3, 1) := by decide +kernel
theorem dL_law_239 : decode cL_law 239 = .ok (.iconst 2, 1) := by decide +kernel
theorem dL_law_240 : decode cL_law 240 = .ok (.iadd, 1) := by decide +kernel
theorem dL_law_241 : decode cL_law 241 = .ok (.iaload, 1) := by decide +kernel
theorem dL_law_242 : decode cL_law 242 = .ok (.aload_n 0, 1) := by decide +kernel
theorem dL_law_243 : decode cL_law 243 = .ok (.iload_n 3, 1) := by decide +kernel
theorem dL_law_244 : decode cL_law 244 = .ok (.iconst 3, 1) := by decide +kernel
theorem dL_law_245 : decode cL_law 245 = .ok (.iadd, 1) := by decide +kernel
theorem dL_law_246 : decode cL_law 246 = .ok (.iaload, 1) := by decide +kernel
theorem dL_law_247 : decode cL_law 247 = .ok (.invokevirtual 17, 3) := by decide +kernel
theorem dL_law_250 : decode cL_law 250 = .ok (.if_icmp .eq 1176, 3) := by decide +kernel
theorem dL_law_253 : decode cL_law 253 = .ok (.iconst 0, 1) := by decide +kernel
theorem dL_law_254 : decode cL_law 254 = .ok (.ireturn, 1) := by decide +kernel
theorem dL_law_255 : decode cL_law 255 = .ok (.aload_n 1, 1) := by decide +kernel
theorem dL_law_256 : decode cL_law 256 = .ok (.aload_n 0, 1) := by decide +kernel
theorem dL_law_257 : decode cL_law 257 = .ok (.iload_n 3, 1) := by decide +kernel
theorem dL_law_258 : decode cL_law 258 = .ok (.iconst 1, 1) := by decide +kernel
theorem dL_law_259 : decode cL_law 259 = .ok (.iadd, 1) := by decide +kernel
theorem dL_law_260 : decode cL_law 260 = .ok (.iaload, 1) := by decide +kernel
theorem dL_law_261 : decode cL_law 261 = .ok (.aload_n 0, 1) := by decide +kernel
theorem dL_law_262 : decode cL_law 262 = .ok (.iload_n 3, 1) := by decide +kernel
theorem dL_law_263 : decode cL_law 263 = .ok (.iconst 2, 1) := by decide +kernel
theorem dL_law_264 : decode cL_law 264 = .ok (.iadd, 1) := by decide +kernel
theorem dL_law_265 : decode cL_law 265 = .ok (.iaload, 1) := by decide +kernel
theorem dL_law_266 : decode cL_law 266 = .ok (.invokevirtual 18, 3) := by decide +kernel
theorem dL_law_269 : decode cL_law 269 = .ok (.aload_n 2, 1) := by decide +kernel
theorem dL_law_270 : decode cL_law 270 = .ok (.aload_n 0, 1) := by decide +kernel
theorem dL_law_271 : decode cL_law 271 = .ok (.iload_n 3, 1) := by decide +kernel
theorem dL_law_272 : decode cL_law 272 = .ok (.iconst 1, 1) := by decide +kernel
theorem dL_law_273 : decode cL_law 273 = .ok (.iadd, 1) := by decide +kernel
theorem dL_law_274 : decode cL_law 274 = .ok (.iaload, 1) := by decide +kernel
theorem dL_law_275 : decode cL_law 275 = .ok (.aload_n 0, 1) := by decide +kernel
theorem dL_law_276 : decode cL_law 276 = .ok (.iload_n 3, 1) := by decide +kernel
theorem dL_law_277 : decode cL_law 277 = .ok (.iconst 2, 1) := by decide +kernel
theorem dL_law_278 : decode cL_law 278 = .ok (.iadd, 1) := by decide +kernel
theorem dL_law_279 : decode cL_law 279 = .ok (.iaload, 1) := by decide +kernel
theorem dL_law_280 : decode cL_law 280 = .ok (.invokevirtual 22, 3) := by decide +kernel
theorem dL_law_283 : decode cL_law 283 = .ok (.if_icmp .eq 1143, 3) := by decide +kernel
theorem dL_law_286 : decode cL_law 286 = .ok (.iconst 0, 1) := by decide +kernel
theorem dL_law_287 : decode cL_law 287 = .ok (.ireturn, 1) := by decide +kernel
theorem dL_law_288 : decode cL_law 288 = .ok (.aload_n 1, 1) := by decide +kernel
theorem dL_law_289 : decode cL_law 289 = .ok (.aload_n 0, 1) := by decide +kernel
theorem dL_law_290 : decode cL_law 290 = .ok (.iload_n 3, 1) := by decide +kernel
theorem dL_law_291 : decode cL_law 291 = .ok (.iconst 1, 1) := by decide +kernel
theorem dL_law_292 : decode cL_law 292 = .ok (.iadd, 1) := by decide +kernel
theorem dL_law_293 : decode cL_law 293 = .ok (.iaload, 1) := by decide +kernel
theorem dL_law_294 : decode cL_law 294 = .ok (.aload_n 0, 1) := by decide +kernel
theorem dL_law_295 : decode cL_law 295 = .ok (.iload_n 3, 1) := by decide +kernel
theorem dL_law_296 : decode cL_law 296 = .ok (.iconst 2, 1) := by decide +kernel
theorem dL_law_297 : decode cL_law 297 = .ok (.iadd, 1) := by decide +kernel
theorem dL_law_298 : decode cL_law 298 = .ok (.iaload, 1) := by decide +kernel
theorem dL_law_299 : decode cL_law 299 = .ok (.invokevirtual 23, 3) := by decide +kernel
theorem dL_law_302 : decode cL_law 302 = .ok (.aload_n 2, 1) := by decide +kernel
theorem dL_law_303 : decode cL_law 303 = .ok (.aload_n 0, 1) := by decide +kernel
theorem dL_law_304 : decode cL_law 304 = .ok (.iload_n 3, 1) := by decide +kernel
theorem dL_law_305 : decode cL_law 305 = .ok (.iconst 1, 1) := by decide +kernel
theorem dL_law_306 : decode cL_law 306 = .ok (.iadd, 1) := by decide +kernel
theorem dL_law_307 : decode cL_law 307 = .ok (.iaload, 1) := by decide +kernel
theorem dL_law_308 : decode cL_law 308 = .ok (.aload_n 0, 1) := by decide +kernel
theorem dL_law_309 : decode cL_law 309 = .ok (.iload_n 3, 1) := by decide +kernel
theorem dL_law_310 : decode cL_law 310 = .ok (.iconst 2, 1) := by decide +kernel
theorem dL_law_311 : decode cL_law 311 = .ok (.iadd, 1) := by decide +kernel
theorem dL_law_312 : decode cL_law 312 = .ok (.iaload, 1) := by decide +kernel
theorem dL_law_313 : decode cL_law 313 = .ok (.invokevirtual 26, 3) := by decide +kernel
theorem dL_law_316 : decode cL_law 316 = .ok (.if_icmp .eq 1110, 3) := by decide +kernel
theorem dL_law_319 : decode cL_law 319 = .ok (.iconst 0, 1) := by decide +kernel
theorem dL_law_320 : decode cL_law 320 = .ok (.ireturn, 1) := by decide +kernel
theorem dL_law_321 : decode cL_law 321 = .ok (.aload_n 1, 1) := by decide +kernel
theorem dL_law_322 : decode cL_law 322 = .ok (.aload_n 0, 1) := by decide +kernel
theorem dL_law_323 : decode cL_law 323 = .ok (.iload_n 3, 1) := by decide +kernel
theorem dL_law_324 : decode cL_law 324 = .ok (.iconst 1, 1) := by decide +kernel
theorem dL_law_325 : decode cL_law 325 = .ok (.iadd, 1) := by decide +kernel
theorem dL_law_326 : decode cL_law 326 = .ok (.iaload, 1) := by decide +kernel
theorem dL_law_327 : decode cL_law 327 = .ok (.aload_n 0, 1) := by decide +kernel
theorem dL_law_328 : decode cL_law 328 = .ok (.iload_n 3, 1) := by decide +kernel
theorem dL_law_329 : decode cL_law 329 = .ok (.iconst 2, 1) := by decide +kernel
theorem dL_law_330 : decode cL_law 330 = .ok (.iadd, 1) := by decide +kernel
theorem dL_law_331 : decode cL_law 331 = .ok (.iaload, 1) := by decide +kernel
theorem dL_law_332 : decode cL_law 332 = .ok (.invokevirtual 27, 3) := by decide +kernel
theorem dL_law_335 : decode cL_law 335 = .ok (.aload_n 2, 1) := by decide +kernel
theorem dL_law_336 : decode cL_law 336 = .ok (.aload_n 0, 1) := by decide +kernel
theorem dL_law_337 : decode cL_law 337 = .ok (.iload_n 3, 1) := by decide +kernel
theorem dL_law_338 : decode cL_law 338 = .ok (.iconst 1, 1) := by decide +kernel
theorem dL_law_339 : decode cL_law 339 = .ok (.iadd, 1) := by decide +kernel
theorem dL_law_340 : decode cL_law 340 = .ok (.iaload, 1) := by decide +kernel
theorem dL_law_341 : decode cL_law 341 = .ok (.aload_n 0, 1) := by decide +kernel
theorem dL_law_342 : decode cL_law 342 = .ok (.iload_n 3, 1) := by decide +kernel
theorem dL_law_343 : decode cL_law 343 = .ok (.iconst 2, 1) := by decide +kernel
theorem dL_law_344 : decode cL_law 344 = .ok (.iadd, 1) := by decide +kernel
theorem dL_law_345 : decode cL_law 345 = .ok (.iaload, 1) := by decide +kernel
theorem dL_law_346 : decode cL_law 346 = .ok (.invokevirtual 30, 3) := by decide +kernel
theorem dL_law_349 : decode cL_law 349 = .ok (.if_icmp .eq 1077, 3) := by decide +kernel
theorem dL_law_352 : decode cL_law 352 = .ok (.iconst 0, 1) := by decide +kernel
theorem dL_law_353 : decode cL_law 353 = .ok (.ireturn, 1) := by decide +kernel
theorem dL_law_354 : decode cL_law 354 = .ok (.aload_n 1, 1) := by decide +kernel
theorem dL_law_355 : decode cL_law 355 = .ok (.aload_n 0, 1) := by decide +kernel
theorem dL_law_356 : decode cL_law 356 = .ok (.iload_n 3, 1) := by decide +kernel
theorem dL_law_357 : decode cL_law 357 = .ok (.iconst 1, 1) := by decide +kernel
theorem dL_law_358 : decode cL_law 358 = .ok (.iadd, 1) := by decide +kernel
theorem dL_law_359 : decode cL_law 359 = .ok (.iaload, 1) := by decide +kernel
theorem dL_law_360 : decode cL_law 360 = .ok (.aload_n 0, 1) := by decide +kernel
theorem dL_law_361 : decode cL_law 361 = .ok (.iload_n 3, 1) := by decide +kernel
theorem dL_law_362 : decode cL_law 362 = .ok (.iconst 2, 1) := by decide +kernel
theorem dL_law_363 : decode cL_law 363 = .ok (.iadd, 1) := by decide +kernel
theorem dL_law_364 : decode cL_law 364 = .ok (.iaload, 1) := by decide +kernel
theorem dL_law_365 : decode cL_law 365 = .ok (.aload_n 0, 1) := by decide +kernel
theorem dL_law_366 : decode cL_law 366 = .ok (.iload_n 3, 1) := by decide +kernel
theorem dL_law_367 : decode cL_law 367 = .ok (.iconst 3, 1) := by decide +kernel
theorem dL_law_368 : decode cL_law 368 = .ok (.iadd, 1) := by decide +kernel
theorem dL_law_369 : decode cL_law 369 = .ok (.iaload, 1) := by decide +kernel
theorem dL_law_370 : decode cL_law 370 = .ok (.invokevirtual 31, 3) := by decide +kernel
theorem dL_law_373 : decode cL_law 373 = .ok (.aload_n 2, 1) := by decide +kernel
theorem dL_law_374 : decode cL_law 374 = .ok (.aload_n 0, 1) := by decide +kernel
theorem dL_law_375 : decode cL_law 375 = .ok (.iload_n 3, 1) := by decide +kernel
theorem dL_law_376 : decode cL_law 376 = .ok (.iconst 1, 1) := by decide +kernel
theorem dL_law_377 : decode cL_law 377 = .ok (.iadd, 1) := by decide +kernel
theorem dL_law_378 : decode cL_law 378 = .ok (.iaload, 1) := by decide +kernel
theorem dL_law_379 : decode cL_law 379 = .ok (.aload_n 0, 1) := by decide +kernel
theorem dL_law_380 : decode cL_law 380 = .ok (.iload_n 3, 1) := by decide +kernel
theorem dL_law_381 : decode cL_law 381 = .ok (.iconst 2, 1) := by decide +kernel
theorem dL_law_382 : decode cL_law 382 = .ok (.iadd, 1) := by decide +kernel
theorem dL_law_383 : decode cL_law 383 = .ok (.iaload, 1) := by decide +kernel
theorem dL_law_384 : decode cL_law 384 = .ok (.aload_n 0, 1) := by decide +kernel
theorem dL_law_385 : decode cL_law 385 = .ok (.iload_n 3, 1) := by decide +kernel
theorem dL_law_386 : decode cL_law 386 = .ok (.iconst 3, 1) := by decide +kernel
theorem dL_law_387 : decode cL_law 387 = .ok (.iadd, 1) := by decide +kernel
theorem dL_law_388 : decode cL_law 388 = .ok (.iaload, 1) := by decide +kernel
theorem dL_law_389 : decode cL_law 389 = .ok (.invokevirtual 34, 3) := by decide +kernel
theorem dL_law_392 : decode cL_law 392 = .ok (.if_icmp .eq 1034, 3) := by decide +kernel
theorem dL_law_395 : decode cL_law 395 = .ok (.iconst 0, 1) := by decide +kernel
theorem dL_law_396 : decode cL_law 396 = .ok (.ireturn, 1) := by decide +kernel
theorem dL_law_397 : decode cL_law 397 = .ok (.aload_n 1, 1) := by decide +kernel
theorem dL_law_398 : decode cL_law 398 = .ok (.aload_n 0, 1) := by decide +kernel
theorem dL_law_399 : decode cL_law 399 = .ok (.iload_n 3, 1) := by decide +kernel
theorem dL_law_400 : decode cL_law 400 = .ok (.iconst 1, 1) := by decide +kernel
theorem dL_law_401 : decode cL_law 401 = .ok (.iadd, 1) := by decide +kernel
theorem dL_law_402 : decode cL_law 402 = .ok (.iaload, 1) := by decide +kernel
theorem dL_law_403 : decode cL_law 403 = .ok (.aload_n 0, 1) := by decide +kernel
theorem dL_law_404 : decode cL_law 404 = .ok (.iload_n 3, 1) := by decide +kernel
theorem dL_law_405 : decode cL_law 405 = .ok (.iconst 2, 1) := by decide +kernel
theorem dL_law_406 : decode cL_law 406 = .ok (.iadd, 1) := by decide +kernel
theorem dL_law_407 : decode cL_law 407 = .ok (.iaload, 1) := by decide +kernel
theorem dL_law_408 : decode cL_law 408 = .ok (.invokevirtual 35, 3) := by decide +kernel
theorem dL_law_411 : decode cL_law 411 = .ok (.aload_n 2, 1) := by decide +kernel
theorem dL_law_412 : decode cL_law 412 = .ok (.aload_n 0, 1) := by decide +kernel
theorem dL_law_413 : decode cL_law 413 = .ok (.iload_n 3, 1) := by decide +kernel
theorem dL_law_414 : decode cL_law 414 = .ok (.iconst 1, 1) := by decide +kernel
theorem dL_law_415 : decode cL_law 415 = .ok (.iadd, 1) := by decide +kernel
theorem dL_law_416 : decode cL_law 416 = .ok (.iaload, 1) := by decide +kernel
theorem dL_law_417 : decode cL_law 417 = .ok (.aload_n 0, 1) := by decide +kernel
theorem dL_law_418 : decode cL_law 418 = .ok (.iload_n 3, 1) := by decide +kernel
theorem dL_law_419 : decode cL_law 419 = .ok (.iconst 2, 1) := by decide +kernel
theorem dL_law_420 : decode cL_law 420 = .ok (.iadd, 1) := by decide +kernel
theorem dL_law_421 : decode cL_law 421 = .ok (.iaload, 1) := by decide +kernel
theorem dL_law_422 : decode cL_law 422 = .ok (.invokevirtual 38, 3) := by decide +kernel
theorem dL_law_425 : decode cL_law 425 = .ok (.if_icmp .eq 1001, 3) := by decide +kernel
theorem dL_law_428 : decode cL_law 428 = .ok (.iconst 0, 1) := by decide +kernel
theorem dL_law_429 : decode cL_law 429 = .ok (.ireturn, 1) := by decide +kernel
theorem dL_law_430 : decode cL_law 430 = .ok (.aload_n 1, 1) := by decide +kernel
theorem dL_law_431 : decode cL_law 431 = .ok (.aload_n 0, 1) := by decide +kernel
theorem dL_law_432 : decode cL_law 432 = .ok (.iload_n 3, 1) := by decide +kernel
theorem dL_law_433 : decode cL_law 433 = .ok (.iconst 1, 1) := by decide +kernel
theorem dL_law_434 : decode cL_law 434 = .ok (.iadd, 1) := by decide +kernel
theorem dL_law_435 : decode cL_law 435 = .ok (.iaload, 1) := by decide +kernel
theorem dL_law_436 : decode cL_law 436 = .ok (.aload_n 0, 1) := by decide +kernel
theorem dL_law_437 : decode cL_law 437 = .ok (.iload_n 3, 1) := by decide +kernel
theorem dL_law_438 : decode cL_law 438 = .ok (.iconst 2, 1) := by decide +kernel
theorem dL_law_439 : decode cL_law 439 = .ok (.iadd, 1) := by decide +kernel
theorem dL_law_440 : decode cL_law 440 = .ok (.iaload, 1) := by decide +kernel
theorem dL_law_441 : decode cL_law 441 = .ok (.invokevirtual 39, 3) := by decide +kernel
theorem dL_law_444 : decode cL_law 444 = .ok (.aload_n 2, 1) := by decide +kernel
theorem dL_law_445 : decode cL_law 445 = .ok (.aload_n 0, 1) := by decide +kernel
theorem dL_law_446 : decode cL_law 446 = .ok (.iload_n 3, 1) := by decide +kernel
theorem dL_law_447 : decode cL_law 447 = .ok (.iconst 1, 1) := by decide +kernel
theorem dL_law_448 : decode cL_law 448 = .ok (.iadd, 1) := by decide +kernel
theorem dL_law_449 : decode cL_law 449 = .ok (.iaload, 1) := by decide +kernel
theorem dL_law_450 : decode cL_law 450 = .ok (.aload_n 0, 1) := by decide +kernel
theorem dL_law_451 : decode cL_law 451 = .ok (.iload_n 3, 1) := by decide +kernel
theorem dL_law_452 : decode cL_law 452 = .ok (.iconst 2, 1) := by decide +kernel
theorem dL_law_453 : decode cL_law 453 = .ok (.iadd, 1) := by decide +kernel
theorem dL_law_454 : decode cL_law 454 = .ok (.iaload, 1) := by decide +kernel
theorem dL_law_455 : decode cL_law 455 = .ok (.invokevirtual 42, 3) := by decide +kernel
theorem dL_law_458 : decode cL_law 458 = .ok (.if_icmp .eq 968, 3) := by decide +kernel
theorem dL_law_461 : decode cL_law 461 = .ok (.iconst 0, 1) := by decide +kernel
theorem dL_law_462 : decode cL_law 462 = .ok (.ireturn, 1) := by decide +kernel
theorem dL_law_463 : decode cL_law 463 = .ok (.aload_n 1, 1) := by decide +kernel
theorem dL_law_464 : decode cL_law 464 = .ok (.aload_n 0, 1) := by decide +kernel
theorem dL_law_465 : decode cL_law 465 = .ok (.iload_n 3, 1) := by decide +kernel
theorem dL_law_466 : decode cL_law 466 = .ok (.iconst 1, 1) := by decide +kernel
theorem dL_law_467 : decode cL_law 467 = .ok (.iadd, 1) := by decide +kernel
theorem dL_law_468 : decode cL_law 468 = .ok (.iaload, 1) := by decide +kernel
theorem dL_law_469 : decode cL_law 469 = .ok (.aload_n 0, 1) := by decide +kernel
theorem dL_law_470 : decode cL_law 470 = .ok (.iload_n 3, 1) := by decide +kernel
theorem dL_law_471 : decode cL_law 471 = .ok (.iconst 2, 1) := by decide +kernel
theorem dL_law_472 : decode cL_law 472 = .ok (.iadd, 1) := by decide +kernel
theorem dL_law_473 : decode cL_law 473 = .ok (.iaload, 1) := by decide +kernel
theorem dL_law_474 : decode cL_law 474 = .ok (.invokevirtual 43, 3) := by decide +kernel
theorem dL_law_477 : decode cL_law 477 = .ok (.aload_n 2, 1) := by decide +kernel
theorem dL_law_478 : decode cL_law 478 = .ok (.aload_n 0, 1) := by decide +kernel
theorem dL_law_479 : decode cL_law 479 = .ok (.iload_n 3, 1) := by decide +kernel
theorem dL_law_480 : decode cL_law 480 = .ok (.iconst 1, 1) := by decide +kernel
theorem dL_law_481 : decode cL_law 481 = .ok (.iadd, 1) := by decide +kernel
theorem dL_law_482 : decode cL_law 482 = .ok (.iaload, 1) := by decide +kernel
theorem dL_law_483 : decode cL_law 483 = .ok (.aload_n 0, 1) := by decide +kernel
theorem dL_law_484 : decode cL_law 484 = .ok (.iload_n 3, 1) := by decide +kernel
theorem dL_law_485 : decode cL_law 485 = .ok (.iconst 2, 1) := by decide +kernel
theorem dL_law_486 : decode cL_law 486 = .ok (.iadd, 1) := by decide +kernel
theorem dL_law_487 : decode cL_law 487 = .ok (.iaload, 1) := by decide +kernel
theorem dL_law_488 : decode cL_law 488 = .ok (.invokevirtual 46, 3) := by decide +kernel
theorem dL_law_491 : decode cL_law 491 = .ok (.if_icmp .eq 935, 3) := by decide +kernel
theorem dL_law_494 : decode cL_law 494 = .ok (.iconst 0, 1) := by decide +kernel
theorem dL_law_495 : decode cL_law 495 = .ok (.ireturn, 1) := by decide +kernel
theorem dL_law_496 : decode cL_law 496 = .ok (.aload_n 1, 1) := by decide +kernel
theorem dL_law_497 : decode cL_law 497 = .ok (.aload_n 0, 1) := by decide +kernel
theorem dL_law_498 : decode cL_law 498 = .ok (.iload_n 3, 1) := by decide +kernel
theorem dL_law_499 : decode cL_law 499 = .ok (.iconst 1, 1) := by decide +kernel
theorem dL_law_500 : decode cL_law 500 = .ok (.iadd, 1) := by decide +kernel
theorem dL_law_501 : decode cL_law 501 = .ok (.iaload, 1) := by decide +kernel
theorem dL_law_502 : decode cL_law 502 = .ok (.invokevirtual 47, 3) := by decide +kernel
theorem dL_law_505 : decode cL_law 505 = .ok (.aload_n 2, 1) := by decide +kernel
theorem dL_law_506 : decode cL_law 506 = .ok (.aload_n 0, 1) := by decide +kernel
theorem dL_law_507 : decode cL_law 507 = .ok (.iload_n 3, 1) := by decide +kernel
theorem dL_law_508 : decode cL_law 508 = .ok (.iconst 1, 1) := by decide +kernel
theorem dL_law_509 : decode cL_law 509 = .ok (.iadd, 1) := by decide +kernel
theorem dL_law_510 : decode cL_law 510 = .ok (.iaload, 1) := by decide +kernel
theorem dL_law_511 : decode cL_law 511 = .ok (.invokevirtual 51, 3) := by decide +kernel
theorem dL_law_514 : decode cL_law 514 = .ok (.if_icmp .eq 912, 3) := by decide +kernel
theorem dL_law_517 : decode cL_law 517 = .ok (.iconst 0, 1) := by decide +kernel
theorem dL_law_518 : decode cL_law 518 = .ok (.ireturn, 1) := by decide +kernel
theorem dL_law_519 : decode cL_law 519 = .ok (.aload_n 1, 1) := by decide +kernel
theorem dL_law_520 : decode cL_law 520 = .ok (.aload_n 0, 1) := by decide +kernel
theorem dL_law_521 : decode cL_law 521 = .ok (.iload_n 3, 1) := by decide +kernel
theorem dL_law_522 : decode cL_law 522 = .ok (.iconst 1, 1) := by decide +kernel
theorem dL_law_523 : decode cL_law 523 = .ok (.iadd, 1) := by decide +kernel
theorem dL_law_524 : decode cL_law 524 = .ok (.iaload, 1) := by decide +kernel
theorem dL_law_525 : decode cL_law 525 = .ok (.aload_n 0, 1) := by decide +kernel
theorem dL_law_526 : decode cL_law 526 = .ok (.iload_n 3, 1) := by decide +kernel
theorem dL_law_527 : decode cL_law 527 = .ok (.iconst 2, 1) := by decide +kernel
theorem dL_law_528 : decode cL_law 528 = .ok (.iadd, 1) := by decide +kernel
theorem dL_law_529 : decode cL_law 529 = .ok (.iaload, 1) := by decide +kernel
theorem dL_law_530 : decode cL_law 530 = .ok (.invokevirtual 52, 3) := by decide +kernel
theorem dL_law_533 : decode cL_law 533 = .ok (.aload_n 2, 1) := by decide +kernel
theorem dL_law_534 : decode cL_law 534 = .ok (.aload_n 0, 1) := by decide +kernel
theorem dL_law_535 : decode cL_law 535 = .ok (.iload_n 3, 1) := by decide +kernel
theorem dL_law_536 : decode cL_law 536 = .ok (.iconst 1, 1) := by decide +kernel
theorem dL_law_537 : decode cL_law 537 = .ok (.iadd, 1) := by decide +kernel
theorem dL_law_538 : decode cL_law 538 = .ok (.iaload, 1) := by decide +kernel
theorem dL_law_539 : decode cL_law 539 = .ok (.aload_n 0, 1) := by decide +kernel
theorem dL_law_540 : decode cL_law 540 = .ok (.iload_n 3, 1) := by decide +kernel
theorem dL_law_541 : decode cL_law 541 = .ok (.iconst 2, 1) := by decide +kernel
theorem dL_law_542 : decode cL_law 542 = .ok (.iadd, 1) := by decide +kernel
theorem dL_law_543 : decode cL_law 543 = .ok (.iaload, 1) := by decide +kernel
theorem dL_law_544 : decode cL_law 544 = .ok (.invokevirtual 55, 3) := by decide +kernel
theorem dL_law_547 : decode cL_law 547 = .ok (.if_icmp .eq 879, 3) := by decide +kernel
theorem dL_law_550 : decode cL_law 550 = .ok (.iconst 0, 1) := by decide +kernel
theorem dL_law_551 : decode cL_law 551 = .ok (.ireturn, 1) := by decide +kernel
theorem dL_law_552 : decode cL_law 552 = .ok (.aload_n 1, 1) := by decide +kernel
theorem dL_law_553 : decode cL_law 553 = .ok (.aload_n 0, 1) := by decide +kernel
theorem dL_law_554 : decode cL_law 554 = .ok (.iload_n 3, 1) := by decide +kernel
theorem dL_law_555 : decode cL_law 555 = .ok (.iconst 1, 1) := by decide +kernel
theorem dL_law_556 : decode cL_law 556 = .ok (.iadd, 1) := by decide +kernel
theorem dL_law_557 : decode cL_law 557 = .ok (.iaload, 1) := by decide +kernel
theorem dL_law_558 : decode cL_law 558 = .ok (.invokevirtual 56, 3) := by decide +kernel
theorem dL_law_561 : decode cL_law 561 = .ok (.aload_n 2, 1) := by decide +kernel
theorem dL_law_562 : decode cL_law 562 = .ok (.aload_n 0, 1) := by decide +kernel
theorem dL_law_563 : decode cL_law 563 = .ok (.iload_n 3, 1) := by decide +kernel
theorem dL_law_564 : decode cL_law 564 = .ok (.iconst 1, 1) := by decide +kernel
theorem dL_law_565 : decode cL_law 565 = .ok (.iadd, 1) := by decide +kernel
theorem dL_law_566 : decode cL_law 566 = .ok (.iaload, 1) := by decide +kernel
theorem dL_law_567 : decode cL_law 567 = .ok (.invokevirtual 59, 3) := by decide +kernel
theorem dL_law_570 : decode cL_law 570 = .ok (.if_icmp .eq 856, 3) := by decide +kernel
theorem dL_law_573 : decode cL_law 573 = .ok (.iconst 0, 1) := by decide +kernel
theorem dL_law_574 : decode cL_law 574 = .ok (.ireturn, 1) := by decide +kernel
theorem dL_law_575 : decode cL_law 575 = .ok (.aload_n 1, 1) := by decide +kernel
theorem dL_law_576 : decode cL_law 576 = .ok (.aload_n 0, 1) := by decide +kernel
theorem dL_law_577 : decode cL_law 577 = .ok (.iload_n 3, 1) := by decide +kernel
theorem dL_law_578 : decode cL_law 578 = .ok (.iconst 1, 1) := by decide +kernel
theorem dL_law_579 : decode cL_law 579 = .ok (.iadd, 1) := by decide +kernel
theorem dL_law_580 : decode cL_law 580 = .ok (.iaload, 1) := by decide +kernel
theorem dL_law_581 : decode cL_law 581 = .ok (.invokevirtual 60, 3) := by decide +kernel
theorem dL_law_584 : decode cL_law 584 = .ok (.aload_n 2, 1) := by decide +kernel
theorem dL_law_585 : decode cL_law 585 = .ok (.aload_n 0, 1) := by decide +kernel
theorem dL_law_586 : decode cL_law 586 = .ok (.iload_n 3, 1) := by decide +kernel
theorem dL_law_587 : decode cL_law 587 = .ok (.iconst 1, 1) := by decide +kernel
theorem dL_law_588 : decode cL_law 588 = .ok (.iadd, 1) := by decide +kernel
theorem dL_law_589 : decode cL_law 589 = .ok (.iaload, 1) := by decide +kernel
theorem dL_law_590 : decode cL_law 590 = .ok (.invokevirtual 63, 3) := by decide +kernel
theorem dL_law_593 : decode cL_law 593 = .ok (.if_icmp .eq 833, 3) := by decide +kernel
theorem dL_law_596 : decode cL_law 596 = .ok (.iconst 0, 1) := by decide +kernel
theorem dL_law_597 : decode cL_law 597 = .ok (.ireturn, 1) := by decide +kernel
theorem dL_law_598 : decode cL_law 598 = .ok (.aload_n 1, 1) := by decide +kernel
theorem dL_law_599 : decode cL_law 599 = .ok (.aload_n 0, 1) := by decide +kernel
theorem dL_law_600 : decode cL_law 600 = .ok (.iload_n 3, 1) := by decide +kernel
theorem dL_law_601 : decode cL_law 601 = .ok (.iconst 1, 1) := by decide +kernel
theorem dL_law_602 : decode cL_law 602 = .ok (.iadd, 1) := by decide +kernel
theorem dL_law_603 : decode cL_law 603 = .ok (.iaload, 1) := by decide +kernel
theorem dL_law_604 : decode cL_law 604 = .ok (.invokevirtual 64, 3) := by decide +kernel
theorem dL_law_607 : decode cL_law 607 = .ok (.aload_n 2, 1) := by decide +kernel
theorem dL_law_608 : decode cL_law 608 = .ok (.aload_n 0, 1) := by decide +kernel
theorem dL_law_609 : decode cL_law 609 = .ok (.iload_n 3, 1) := by decide +kernel
theorem dL_law_610 : decode cL_law 610 = .ok (.iconst 1, 1) := by decide +kernel
theorem dL_law_611 : decode cL_law 611 = .ok (.iadd, 1) := by decide +kernel
theorem dL_law_612 : decode cL_law 612 = .ok (.iaload, 1) := by decide +kernel
theorem dL_law_613 : decode cL_law 613 = .ok (.invokevirtual 67, 3) := by decide +kernel
theorem dL_law_616 : decode cL_law 616 = .ok (.if_icmp .eq 810, 3) := by decide +kernel
theorem dL_law_619 : decode cL_law 619 = .ok (.iconst 0, 1) := by decide +kernel
theorem dL_law_620 : decode cL_law 620 = .ok (.ireturn, 1) := by decide +kernel
theorem dL_law_621 : decode cL_law 621 = .ok (.aload_n 1, 1) := by decide +kernel
theorem dL_law_622 : decode cL_law 622 = .ok (.aload_n 0, 1) := by decide +kernel
theorem dL_law_623 : decode cL_law 623 = .ok (.iload_n 3, 1) := by decide +kernel
theorem dL_law_624 : decode cL_law 624 = .ok (.iconst 1, 1) := by decide +kernel
theorem dL_law_625 : decode cL_law 625 = .ok (.iadd, 1) := by decide +kernel
theorem dL_law_626 : decode cL_law 626 = .ok (.iaload, 1) := by decide +kernel
theorem dL_law_627 : decode cL_law 627 = .ok (.invokevirtual 68, 3) := by decide +kernel
theorem dL_law_630 : decode cL_law 630 = .ok (.aload_n 2, 1) := by decide +kernel
theorem dL_law_631 : decode cL_law 631 = .ok (.aload_n 0, 1) := by decide +kernel
theorem dL_law_632 : decode cL_law 632 = .ok (.iload_n 3, 1) := by decide +kernel
theorem dL_law_633 : decode cL_law 633 = .ok (.iconst 1, 1) := by decide +kernel
theorem dL_law_634 : decode cL_law 634 = .ok (.iadd, 1) := by decide +kernel
theorem dL_law_635 : decode cL_law 635 = .ok (.iaload, 1) := by decide +kernel
theorem dL_law_636 : decode cL_law 636 = .ok (.invokevirtual 71, 3) := by decide +kernel
theorem dL_law_639 : decode cL_law 639 = .ok (.if_icmp .eq 787, 3) := by decide +kernel
theorem dL_law_642 : decode cL_law 642 = .ok (.iconst 0, 1) := by decide +kernel
theorem dL_law_643 : decode cL_law 643 = .ok (.ireturn, 1) := by decide +kernel
theorem dL_law_644 : decode cL_law 644 = .ok (.aload_n 1, 1) := by decide +kernel
theorem dL_law_645 : decode cL_law 645 = .ok (.aload_n 0, 1) := by decide +kernel
theorem dL_law_646 : decode cL_law 646 = .ok (.iload_n 3, 1) := by decide +kernel
theorem dL_law_647 : decode cL_law 647 = .ok (.iconst 1, 1) := by decide +kernel
theorem dL_law_648 : decode cL_law 648 = .ok (.iadd, 1) := by decide +kernel
theorem dL_law_649 : decode cL_law 649 = .ok (.iaload, 1) := by decide +kernel
theorem dL_law_650 : decode cL_law 650 = .ok (.aload_n 0, 1) := by decide +kernel
theorem dL_law_651 : decode cL_law 651 = .ok (.iload_n 3, 1) := by decide +kernel
theorem dL_law_652 : decode cL_law 652 = .ok (.iconst 2, 1) := by decide +kernel
theorem dL_law_653 : decode cL_law 653 = .ok (.iadd, 1) := by decide +kernel
theorem dL_law_654 : decode cL_law 654 = .ok (.iaload, 1) := by decide +kernel
theorem dL_law_655 : decode cL_law 655 = .ok (.aload_n 0, 1) := by decide +kernel
theorem dL_law_656 : decode cL_law 656 = .ok (.iload_n 3, 1) := by decide +kernel
theorem dL_law_657 : decode cL_law 657 = .ok (.iconst 3, 1) := by decide +kernel
theorem dL_law_658 : decode cL_law 658 = .ok (.iadd, 1) := by decide +kernel
theorem dL_law_659 : decode cL_law 659 = .ok (.iaload, 1) := by decide +kernel
theorem dL_law_660 : decode cL_law 660 = .ok (.invokevirtual 72, 3) := by decide +kernel
theorem dL_law_663 : decode cL_law 663 = .ok (.aload_n 2, 1) := by decide +kernel
theorem dL_law_664 : decode cL_law 664 = .ok (.aload_n 0, 1) := by decide +kernel
theorem dL_law_665 : decode cL_law 665 = .ok (.iload_n 3, 1) := by decide +kernel
theorem dL_law_666 : decode cL_law 666 = .ok (.iconst 1, 1) := by decide +kernel
theorem dL_law_667 : decode cL_law 667 = .ok (.iadd, 1) := by decide +kernel
theorem dL_law_668 : decode cL_law 668 = .ok (.iaload, 1) := by decide +kernel
theorem dL_law_669 : decode cL_law 669 = .ok (.aload_n 0, 1) := by decide +kernel
theorem dL_law_670 : decode cL_law 670 = .ok (.iload_n 3, 1) := by decide +kernel
theorem dL_law_671 : decode cL_law 671 = .ok (.iconst 2, 1) := by decide +kernel
theorem dL_law_672 : decode cL_law 672 = .ok (.iadd, 1) := by decide +kernel
theorem dL_law_673 : decode cL_law 673 = .ok (.iaload, 1) := by decide +kernel
theorem dL_law_674 : decode cL_law 674 = .ok (.aload_n 0, 1) := by decide +kernel
theorem dL_law_675 : decode cL_law 675 = .ok (.iload_n 3, 1) := by decide +kernel
theorem dL_law_676 : decode cL_law 676 = .ok (.iconst 3, 1) := by decide +kernel
theorem dL_law_677 : decode cL_law 677 = .ok (.iadd, 1) := by decide +kernel
theorem dL_law_678 : decode cL_law 678 = .ok (.iaload, 1) := by decide +kernel
theorem dL_law_679 : decode cL_law 679 = .ok (.invokevirtual 75, 3) := by decide +kernel
theorem dL_law_682 : decode cL_law 682 = .ok (.if_icmp .eq 744, 3) := by decide +kernel
theorem dL_law_685 : decode cL_law 685 = .ok (.iconst 0, 1) := by decide +kernel
theorem dL_law_686 : decode cL_law 686 = .ok (.ireturn, 1) := by decide +kernel
theorem dL_law_687 : decode cL_law 687 = .ok (.aload_n 1, 1) := by decide +kernel
theorem dL_law_688 : decode cL_law 688 = .ok (.aload_n 0, 1) := by decide +kernel
theorem dL_law_689 : decode cL_law 689 = .ok (.iload_n 3, 1) := by decide +kernel
theorem dL_law_690 : decode cL_law 690 = .ok (.iconst 1, 1) := by decide +kernel
theorem dL_law_691 : decode cL_law 691 = .ok (.iadd, 1) := by decide +kernel
theorem dL_law_692 : decode cL_law 692 = .ok (.iaload, 1) := by decide +kernel
theorem dL_law_693 : decode cL_law 693 = .ok (.aload_n 0, 1) := by decide +kernel
theorem dL_law_694 : decode cL_law 694 = .ok (.iload_n 3, 1) := by decide +kernel
theorem dL_law_695 : decode cL_law 695 = .ok (.iconst 2, 1) := by decide +kernel
theorem dL_law_696 : decode cL_law 696 = .ok (.iadd, 1) := by decide +kernel
theorem dL_law_697 : decode cL_law 697 = .ok (.iaload, 1) := by decide +kernel
theorem dL_law_698 : decode cL_law 698 = .ok (.invokevirtual 76, 3) := by decide +kernel
theorem dL_law_701 : decode cL_law 701 = .ok (.aload_n 2, 1) := by decide +kernel
theorem dL_law_702 : decode cL_law 702 = .ok (.aload_n 0, 1) := by decide +kernel
theorem dL_law_703 : decode cL_law 703 = .ok (.iload_n 3, 1) := by decide +kernel
theorem dL_law_704 : decode cL_law 704 = .ok (.iconst 1, 1) := by decide +kernel
theorem dL_law_705 : decode cL_law 705 = .ok (.iadd, 1) := by decide +kernel
theorem dL_law_706 : decode cL_law 706 = .ok (.iaload, 1) := by decide +kernel
theorem dL_law_707 : decode cL_law 707 = .ok (.aload_n 0, 1) := by decide +kernel
theorem dL_law_708 : decode cL_law 708 = .ok (.iload_n 3, 1) := by decide +kernel
theorem dL_law_709 : decode cL_law 709 = .ok (.iconst 2, 1) := by decide +kernel
theorem dL_law_710 : decode cL_law 710 = .ok (.iadd, 1) := by decide +kernel
theorem dL_law_711 : decode cL_law 711 = .ok (.iaload, 1) := by decide +kernel
theorem dL_law_712 : decode cL_law 712 = .ok (.invokevirtual 79, 3) := by decide +kernel
theorem dL_law_715 : decode cL_law 715 = .ok (.if_icmp .eq 711, 3) := by decide +kernel
theorem dL_law_718 : decode cL_law 718 = .ok (.iconst 0, 1) := by decide +kernel
theorem dL_law_719 : decode cL_law 719 = .ok (.ireturn, 1) := by decide +kernel
theorem dL_law_720 : decode cL_law 720 = .ok (.aload_n 1, 1) := by decide +kernel
theorem dL_law_721 : decode cL_law 721 = .ok (.aload_n 0, 1) := by decide +kernel
theorem dL_law_722 : decode cL_law 722 = .ok (.iload_n 3, 1) := by decide +kernel
theorem dL_law_723 : decode cL_law 723 = .ok (.iconst 1, 1) := by decide +kernel
theorem dL_law_724 : decode cL_law 724 = .ok (.iadd, 1) := by decide +kernel
theorem dL_law_725 : decode cL_law 725 = .ok (.iaload, 1) := by decide +kernel
theorem dL_law_726 : decode cL_law 726 = .ok (.invokevirtual 80, 3) := by decide +kernel
theorem dL_law_729 : decode cL_law 729 = .ok (.aload_n 2, 1) := by decide +kernel
theorem dL_law_730 : decode cL_law 730 = .ok (.aload_n 0, 1) := by decide +kernel
theorem dL_law_731 : decode cL_law 731 = .ok (.iload_n 3, 1) := by decide +kernel
theorem dL_law_732 : decode cL_law 732 = .ok (.iconst 1, 1) := by decide +kernel
theorem dL_law_733 : decode cL_law 733 = .ok (.iadd, 1) := by decide +kernel
theorem dL_law_734 : decode cL_law 734 = .ok (.iaload, 1) := by decide +kernel
theorem dL_law_735 : decode cL_law 735 = .ok (.invokevirtual 83, 3) := by decide +kernel
theorem dL_law_738 : decode cL_law 738 = .ok (.if_icmp .eq 688, 3) := by decide +kernel
theorem dL_law_741 : decode cL_law 741 = .ok (.iconst 0, 1) := by decide +kernel
theorem dL_law_742 : decode cL_law 742 = .ok (.ireturn, 1) := by decide +kernel
theorem dL_law_743 : decode cL_law 743 = .ok (.aload_n 1, 1) := by decide +kernel
theorem dL_law_744 : decode cL_law 744 = .ok (.aload_n 0, 1) := by decide +kernel
theorem dL_law_745 : decode cL_law 745 = .ok (.iload_n 3, 1) := by decide +kernel
theorem dL_law_746 : decode cL_law 746 = .ok (.iconst 1, 1) := by decide +kernel
theorem dL_law_747 : decode cL_law 747 = .ok (.iadd, 1) := by decide +kernel
theorem dL_law_748 : decode cL_law 748 = .ok (.iaload, 1) := by decide +kernel
theorem dL_law_749 : decode cL_law 749 = .ok (.invokevirtual 84, 3) := by decide +kernel
theorem dL_law_752 : decode cL_law 752 = .ok (.aload_n 2, 1) := by decide +kernel
theorem dL_law_753 : decode cL_law 753 = .ok (.aload_n 0, 1) := by decide +kernel
theorem dL_law_754 : decode cL_law 754 = .ok (.iload_n 3, 1) := by decide +kernel
theorem dL_law_755 : decode cL_law 755 = .ok (.iconst 1, 1) := by decide +kernel
theorem dL_law_756 : decode cL_law 756 = .ok (.iadd, 1) := by decide +kernel
theorem dL_law_757 : decode cL_law 757 = .ok (.iaload, 1) := by decide +kernel
theorem dL_law_758 : decode cL_law 758 = .ok (.invokevirtual 87, 3) := by decide +kernel
theorem dL_law_761 : decode cL_law 761 = .ok (.if_icmp .eq 665, 3) := by decide +kernel
theorem dL_law_764 : decode cL_law 764 = .ok (.iconst 0, 1) := by decide +kernel
theorem dL_law_765 : decode cL_law 765 = .ok (.ireturn, 1) := by decide +kernel
theorem dL_law_766 : decode cL_law 766 = .ok (.aload_n 1, 1) := by decide +kernel
theorem dL_law_767 : decode cL_law 767 = .ok (.aload_n 0, 1) := by decide +kernel
theorem dL_law_768 : decode cL_law 768 = .ok (.iload_n 3, 1) := by decide +kernel
theorem dL_law_769 : decode cL_law 769 = .ok (.iconst 1, 1) := by decide +kernel
theorem dL_law_770 : decode cL_law 770 = .ok (.iadd, 1) := by decide +kernel
theorem dL_law_771 : decode cL_law 771 = .ok (.iaload, 1) := by decide +kernel
theorem dL_law_772 : decode cL_law 772 = .ok (.invokevirtual 88, 3) := by decide +kernel
theorem dL_law_775 : decode cL_law 775 = .ok (.aload_n 2, 1) := by decide +kernel
theorem dL_law_776 : decode cL_law 776 = .ok (.aload_n 0, 1) := by decide +kernel
theorem dL_law_777 : decode cL_law 777 = .ok (.iload_n 3, 1) := by decide +kernel
theorem dL_law_778 : decode cL_law 778 = .ok (.iconst 1, 1) := by decide +kernel
theorem dL_law_779 : decode cL_law 779 = .ok (.iadd, 1) := by decide +kernel
theorem dL_law_780 : decode cL_law 780 = .ok (.iaload, 1) := by decide +kernel
theorem dL_law_781 : decode cL_law 781 = .ok (.invokevirtual 91, 3) := by decide +kernel
theorem dL_law_784 : decode cL_law 784 = .ok (.if_icmp .eq 642, 3) := by decide +kernel
theorem dL_law_787 : decode cL_law 787 = .ok (.iconst 0, 1) := by decide +kernel
theorem dL_law_788 : decode cL_law 788 = .ok (.ireturn, 1) := by decide +kernel
theorem dL_law_789 : decode cL_law 789 = .ok (.aload_n 1, 1) := by decide +kernel
theorem dL_law_790 : decode cL_law 790 = .ok (.aload_n 0, 1) := by decide +kernel
theorem dL_law_791 : decode cL_law 791 = .ok (.iload_n 3, 1) := by decide +kernel
theorem dL_law_792 : decode cL_law 792 = .ok (.iconst 1, 1) := by decide +kernel
theorem dL_law_793 : decode cL_law 793 = .ok (.iadd, 1) := by decide +kernel
theorem dL_law_794 : decode cL_law 794 = .ok (.iaload, 1) := by decide +kernel
theorem dL_law_795 : decode cL_law 795 = .ok (.aload_n 0, 1) := by decide +kernel
theorem dL_law_796 : decode cL_law 796 = .ok (.iload_n 3, 1) := by decide +kernel
theorem dL_law_797 : decode cL_law 797 = .ok (.iconst 2, 1) := by decide +kernel
theorem dL_law_798 : decode cL_law 798 = .ok (.iadd, 1) := by decide +kernel
theorem dL_law_799 : decode cL_law 799 = .ok (.iaload, 1) := by decide +kernel
theorem dL_law_800 : decode cL_law 800 = .ok (.invokevirtual 92, 3) := by decide +kernel
theorem dL_law_803 : decode cL_law 803 = .ok (.aload_n 2, 1) := by decide +kernel
theorem dL_law_804 : decode cL_law 804 = .ok (.aload_n 0, 1) := by decide +kernel
theorem dL_law_805 : decode cL_law 805 = .ok (.iload_n 3, 1) := by decide +kernel
theorem dL_law_806 : decode cL_law 806 = .ok (.iconst 1, 1) := by decide +kernel
theorem dL_law_807 : decode cL_law 807 = .ok (.iadd, 1) := by decide +kernel
theorem dL_law_808 : decode cL_law 808 = .ok (.iaload, 1) := by decide +kernel
theorem dL_law_809 : decode cL_law 809 = .ok (.aload_n 0, 1) := by decide +kernel
theorem dL_law_810 : decode cL_law 810 = .ok (.iload_n 3, 1) := by decide +kernel
theorem dL_law_811 : decode cL_law 811 = .ok (.iconst 2, 1) := by decide +kernel
theorem dL_law_812 : decode cL_law 812 = .ok (.iadd, 1) := by decide +kernel
theorem dL_law_813 : decode cL_law 813 = .ok (.iaload, 1) := by decide +kernel
theorem dL_law_814 : decode cL_law 814 = .ok (.invokevirtual 95, 3) := by decide +kernel
theorem dL_law_817 : decode cL_law 817 = .ok (.if_icmp .eq 609, 3) := by decide +kernel
theorem dL_law_820 : decode cL_law 820 = .ok (.iconst 0, 1) := by decide +kernel
theorem dL_law_821 : decode cL_law 821 = .ok (.ireturn, 1) := by decide +kernel
theorem dL_law_822 : decode cL_law 822 = .ok (.aload_n 1, 1) := by decide +kernel
theorem dL_law_823 : decode cL_law 823 = .ok (.aload_n 0, 1) := by decide +kernel
theorem dL_law_824 : decode cL_law 824 = .ok (.iload_n 3, 1) := by decide +kernel
theorem dL_law_825 : decode cL_law 825 = .ok (.iconst 1, 1) := by decide +kernel
theorem dL_law_826 : decode cL_law 826 = .ok (.iadd, 1) := by decide +kernel
theorem dL_law_827 : decode cL_law 827 = .ok (.iaload, 1) := by decide +kernel
theorem dL_law_828 : decode cL_law 828 = .ok (.invokevirtual 96, 3) := by decide +kernel
theorem dL_law_831 : decode cL_law 831 = .ok (.aload_n 2, 1) := by decide +kernel
theorem dL_law_832 : decode cL_law 832 = .ok (.aload_n 0, 1) := by decide +kernel
theorem dL_law_833 : decode cL_law 833 = .ok (.iload_n 3, 1) := by decide +kernel
theorem dL_law_834 : decode cL_law 834 = .ok (.iconst 1, 1) := by decide +kernel
theorem dL_law_835 : decode cL_law 835 = .ok (.iadd, 1) := by decide +kernel
theorem dL_law_836 : decode cL_law 836 = .ok (.iaload, 1) := by decide +kernel
theorem dL_law_837 : decode cL_law 837 = .ok (.invokevirtual 99, 3) := by decide +kernel
theorem dL_law_840 : decode cL_law 840 = .ok (.if_icmp .eq 586, 3) := by decide +kernel
theorem dL_law_843 : decode cL_law 843 = .ok (.iconst 0, 1) := by decide +kernel
theorem dL_law_844 : decode cL_law 844 = .ok (.ireturn, 1) := by decide +kernel
theorem dL_law_845 : decode cL_law 845 = .ok (.aload_n 1, 1) := by decide +kernel
theorem dL_law_846 : decode cL_law 846 = .ok (.aload_n 0, 1) := by decide +kernel
theorem dL_law_847 : decode cL_law 847 = .ok (.iload_n 3, 1) := by decide +kernel
theorem dL_law_848 : decode cL_law 848 = .ok (.iconst 1, 1) := by decide +kernel
theorem dL_law_849 : decode cL_law 849 = .ok (.iadd, 1) := by decide +kernel
theorem dL_law_850 : decode cL_law 850 = .ok (.iaload, 1) := by decide +kernel
theorem dL_law_851 : decode cL_law 851 = .ok (.invokevirtual 100, 3) := by decide +kernel
theorem dL_law_854 : decode cL_law 854 = .ok (.aload_n 2, 1) := by decide +kernel
theorem dL_law_855 : decode cL_law 855 = .ok (.aload_n 0, 1) := by decide +kernel
theorem dL_law_856 : decode cL_law 856 = .ok (.iload_n 3, 1) := by decide +kernel
theorem dL_law_857 : decode cL_law 857 = .ok (.iconst 1, 1) := by decide +kernel
theorem dL_law_858 : decode cL_law 858 = .ok (.iadd, 1) := by decide +kernel
theorem dL_law_859 : decode cL_law 859 = .ok (.iaload, 1) := by decide +kernel
theorem dL_law_860 : decode cL_law 860 = .ok (.invokevirtual 103, 3) := by decide +kernel
theorem dL_law_863 : decode cL_law 863 = .ok (.if_icmp .eq 563, 3) := by decide +kernel
theorem dL_law_866 : decode cL_law 866 = .ok (.iconst 0, 1) := by decide +kernel
theorem dL_law_867 : decode cL_law 867 = .ok (.ireturn, 1) := by decide +kernel
theorem dL_law_868 : decode cL_law 868 = .ok (.aload_n 1, 1) := by decide +kernel
theorem dL_law_869 : decode cL_law 869 = .ok (.aload_n 0, 1) := by decide +kernel
theorem dL_law_870 : decode cL_law 870 = .ok (.iload_n 3, 1) := by decide +kernel
theorem dL_law_871 : decode cL_law 871 = .ok (.iconst 1, 1) := by decide +kernel
theorem dL_law_872 : decode cL_law 872 = .ok (.iadd, 1) := by decide +kernel
theorem dL_law_873 : decode cL_law 873 = .ok (.iaload, 1) := by decide +kernel
theorem dL_law_874 : decode cL_law 874 = .ok (.aload_n 0, 1) := by decide +kernel
theorem dL_law_875 : decode cL_law 875 = .ok (.iload_n 3, 1) := by decide +kernel
theorem dL_law_876 : decode cL_law 876 = .ok (.iconst 2, 1) := by decide +kernel
theorem dL_law_877 : decode cL_law 877 = .ok (.iadd, 1) := by decide +kernel
theorem dL_law_878 : decode cL_law 878 = .ok (.iaload, 1) := by decide +kernel
theorem dL_law_879 : decode cL_law 879 = .ok (.invokevirtual 104, 3) := by decide +kernel
theorem dL_law_882 : decode cL_law 882 = .ok (.aload_n 2, 1) := by decide +kernel
theorem dL_law_883 : decode cL_law 883 = .ok (.aload_n 0, 1) := by decide +kernel
theorem dL_law_884 : decode cL_law 884 = .ok (.iload_n 3, 1) := by decide +kernel
theorem dL_law_885 : decode cL_law 885 = .ok (.iconst 1, 1) := by decide +kernel
theorem dL_law_886 : decode cL_law 886 = .ok (.iadd, 1) := by decide +kernel
theorem dL_law_887 : decode cL_law 887 = .ok (.iaload, 1) := by decide +kernel
theorem dL_law_888 : decode cL_law 888 = .ok (.aload_n 0, 1) := by decide +kernel
theorem dL_law_889 : decode cL_law 889 = .ok (.iload_n 3, 1) := by decide +kernel
theorem dL_law_890 : decode cL_law 890 = .ok (.iconst 2, 1) := by decide +kernel
theorem dL_law_891 : decode cL_law 891 = .ok (.iadd, 1) := by decide +kernel
theorem dL_law_892 : decode cL_law 892 = .ok (.iaload, 1) := by decide +kernel
theorem dL_law_893 : decode cL_law 893 = .ok (.invokevirtual 107, 3) := by decide +kernel
theorem dL_law_896 : decode cL_law 896 = .ok (.if_icmp .eq 530, 3) := by decide +kernel
theorem dL_law_899 : decode cL_law 899 = .ok (.iconst 0, 1) := by decide +kernel
theorem dL_law_900 : decode cL_law 900 = .ok (.ireturn, 1) := by decide +kernel
theorem dL_law_901 : decode cL_law 901 = .ok (.aload_n 1, 1) := by decide +kernel
theorem dL_law_902 : decode cL_law 902 = .ok (.aload_n 0, 1) := by decide +kernel
theorem dL_law_903 : decode cL_law 903 = .ok (.iload_n 3, 1) := by decide +kernel
theorem dL_law_904 : decode cL_law 904 = .ok (.iconst 1, 1) := by decide +kernel
theorem dL_law_905 : decode cL_law 905 = .ok (.iadd, 1) := by decide +kernel
theorem dL_law_906 : decode cL_law 906 = .ok (.iaload, 1) := by decide +kernel
theorem dL_law_907 : decode cL_law 907 = .ok (.aload_n 0, 1) := by decide +kernel
theorem dL_law_908 : decode cL_law 908 = .ok (.iload_n 3, 1) := by decide +kernel
theorem dL_law_909 : decode cL_law 909 = .ok (.iconst 2, 1) := by decide +kernel
theorem dL_law_910 : decode cL_law 910 = .ok (.iadd, 1) := by decide +kernel
theorem dL_law_911 : decode cL_law 911 = .ok (.iaload, 1) := by decide +kernel
theorem dL_law_912 : decode cL_law 912 = .ok (.invokevirtual 108, 3) := by decide +kernel
theorem dL_law_915 : decode cL_law 915 = .ok (.aload_n 2, 1) := by decide +kernel
theorem dL_law_916 : decode cL_law 916 = .ok (.aload_n 0, 1) := by decide +kernel
theorem dL_law_917 : decode cL_law 917 = .ok (.iload_n 3, 1) := by decide +kernel
theorem dL_law_918 : decode cL_law 918 = .ok (.iconst 1, 1) := by decide +kernel
theorem dL_law_919 : decode cL_law 919 = .ok (.iadd, 1) := by decide +kernel
theorem dL_law_920 : decode cL_law 920 = .ok (.iaload, 1) := by decide +kernel
theorem dL_law_921 : decode cL_law 921 = .ok (.aload_n 0, 1) := by decide +kernel
theorem dL_law_922 : decode cL_law 922 = .ok (.iload_n 3, 1) := by decide +kernel
theorem dL_law_923 : decode cL_law 923 = .ok (.iconst 2, 1) := by decide +kernel
theorem dL_law_924 : decode cL_law 924 = .ok (.iadd, 1) := by decide +kernel
theorem dL_law_925 : decode cL_law 925 = .ok (.iaload, 1) := by decide +kernel
theorem dL_law_926 : decode cL_law 926 = .ok (.invokevirtual 111, 3) := by decide +kernel
theorem dL_law_929 : decode cL_law 929 = .ok (.if_icmp .eq 497, 3) := by decide +kernel
theorem dL_law_932 : decode cL_law 932 = .ok (.iconst 0, 1) := by decide +kernel
theorem dL_law_933 : decode cL_law 933 = .ok (.ireturn, 1) := by decide +kernel
theorem dL_law_934 : decode cL_law 934 = .ok (.aload_n 1, 1) := by decide +kernel
theorem dL_law_935 : decode cL_law 935 = .ok (.aload_n 0, 1) := by decide +kernel
theorem dL_law_936 : decode cL_law 936 = .ok (.iload_n 3, 1) := by decide +kernel
theorem dL_law_937 : decode cL_law 937 = .ok (.iconst 1, 1) := by decide +kernel
theorem dL_law_938 : decode cL_law 938 = .ok (.iadd, 1) := by decide +kernel
theorem dL_law_939 : decode cL_law 939 = .ok (.iaload, 1) := by decide +kernel
theorem dL_law_940 : decode cL_law 940 = .ok (.invokevirtual 112, 3) := by decide +kernel
theorem dL_law_943 : decode cL_law 943 = .ok (.aload_n 2, 1) := by decide +kernel
theorem dL_law_944 : decode cL_law 944 = .ok (.aload_n 0, 1) := by decide +kernel
theorem dL_law_945 : decode cL_law 945 = .ok (.iload_n 3, 1) := by decide +kernel
theorem dL_law_946 : decode cL_law 946 = .ok (.iconst 1, 1) := by decide +kernel
theorem dL_law_947 : decode cL_law 947 = .ok (.iadd, 1) := by decide +kernel
theorem dL_law_948 : decode cL_law 948 = .ok (.iaload, 1) := by decide +kernel
theorem dL_law_949 : decode cL_law 949 = .ok (.invokevirtual 115, 3) := by decide +kernel
theorem dL_law_952 : decode cL_law 952 = .ok (.if_icmp .eq 474, 3) := by decide +kernel
theorem dL_law_955 : decode cL_law 955 = .ok (.iconst 0, 1) := by decide +kernel
theorem dL_law_956 : decode cL_law 956 = .ok (.ireturn, 1) := by decide +kernel
theorem dL_law_957 : decode cL_law 957 = .ok (.aload_n 1, 1) := by decide +kernel
theorem dL_law_958 : decode cL_law 958 = .ok (.aload_n 0, 1) := by decide +kernel
theorem dL_law_959 : decode cL_law 959 = .ok (.iload_n 3, 1) := by decide +kernel
theorem dL_law_960 : decode cL_law 960 = .ok (.iconst 1, 1) := by decide +kernel
theorem dL_law_961 : decode cL_law 961 = .ok (.iadd, 1) := by decide +kernel
theorem dL_law_962 : decode cL_law 962 = .ok (.iaload, 1) := by decide +kernel
theorem dL_law_963 : decode cL_law 963 = .ok (.invokevirtual 116, 3) := by decide +kernel
theorem dL_law_966 : decode cL_law 966 = .ok (.aload_n 2, 1) := by decide +kernel
theorem dL_law_967 : decode cL_law 967 = .ok (.aload_n 0, 1) := by decide +kernel
theorem dL_law_968 : decode cL_law 968 = .ok (.iload_n 3, 1) := by decide +kernel
theorem dL_law_969 : decode cL_law 969 = .ok (.iconst 1, 1) := by decide +kernel
theorem dL_law_970 : decode cL_law 970 = .ok (.iadd, 1) := by decide +kernel
theorem dL_law_971 : decode cL_law 971 = .ok (.iaload, 1) := by decide +kernel
theorem dL_law_972 : decode cL_law 972 = .ok (.invokevirtual 119, 3) := by decide +kernel
theorem dL_law_975 : decode cL_law 975 = .ok (.if_icmp .eq 451, 3) := by decide +kernel
theorem dL_law_978 : decode cL_law 978 = .ok (.iconst 0, 1) := by decide +kernel
theorem dL_law_979 : decode cL_law 979 = .ok (.ireturn, 1) := by decide +kernel
theorem dL_law_980 : decode cL_law 980 = .ok (.aload_n 1, 1) := by decide +kernel
theorem dL_law_981 : decode cL_law 981 = .ok (.aload_n 0, 1) := by decide +kernel
theorem dL_law_982 : decode cL_law 982 = .ok (.iload_n 3, 1) := by decide +kernel
theorem dL_law_983 : decode cL_law 983 = .ok (.iconst 1, 1) := by decide +kernel
theorem dL_law_984 : decode cL_law 984 = .ok (.iadd, 1) := by decide +kernel
theorem dL_law_985 : decode cL_law 985 = .ok (.iaload, 1) := by decide +kernel
theorem dL_law_986 : decode cL_law 986 = .ok (.aload_n 0, 1) := by decide +kernel
theorem dL_law_987 : decode cL_law 987 = .ok (.iload_n 3, 1) := by decide +kernel
theorem dL_law_988 : decode cL_law 988 = .ok (.iconst 2, 1) := by decide +kernel
theorem dL_law_989 : decode cL_law 989 = .ok (.iadd, 1) := by decide +kernel
theorem dL_law_990 : decode cL_law 990 = .ok (.iaload, 1) := by decide +kernel
theorem dL_law_991 : decode cL_law 991 = .ok (.invokevirtual 120, 3) := by decide +kernel
theorem dL_law_994 : decode cL_law 994 = .ok (.aload_n 2, 1) := by decide +kernel
theorem dL_law_995 : decode cL_law 995 = .ok (.aload_n 0, 1) := by decide +kernel
theorem dL_law_996 : decode cL_law 996 = .ok (.iload_n 3, 1) := by decide +kernel
theorem dL_law_997 : decode cL_law 997 = .ok (.iconst 1, 1) := by decide +kernel
theorem dL_law_998 : decode cL_law 998 = .ok (.iadd, 1) := by decide +kernel
theorem dL_law_999 : decode cL_law 999 = .ok (.iaload, 1) := by decide +kernel
theorem dL_law_1000 : decode cL_law 1000 = .ok (.aload_n 0, 1) := by decide +kernel
theorem dL_law_1001 : decode cL_law 1001 = .ok (.iload_n 3, 1) := by decide +kernel
theorem dL_law_1002 : decode cL_law 1002 = .ok (.iconst 2, 1) := by decide +kernel
theorem dL_law_1003 : decode cL_law 1003 = .ok (.iadd, 1) := by decide +kernel
theorem dL_law_1004 : decode cL_law 1004 = .ok (.iaload, 1) := by decide +kernel
theorem dL_law_1005 : decode cL_law 1005 = .ok (.invokevirtual 123, 3) := by decide +kernel
theorem dL_law_1008 : decode cL_law 1008 = .ok (.if_icmp .eq 418, 3) := by decide +kernel
theorem dL_law_1011 : decode cL_law 1011 = .ok (.iconst 0, 1) := by decide +kernel
theorem dL_law_1012 : decode cL_law 1012 = .ok (.ireturn, 1) := by decide +kernel
theorem dL_law_1013 : decode cL_law 1013 = .ok (.aload_n 1, 1) := by decide +kernel
theorem dL_law_1014 : decode cL_law 1014 = .ok (.aload_n 0, 1) := by decide +kernel
theorem dL_law_1015 : decode cL_law 1015 = .ok (.iload_n 3, 1) := by decide +kernel
theorem dL_law_1016 : decode cL_law 1016 = .ok (.iconst 1, 1) := by decide +kernel
theorem dL_law_1017 : decode cL_law 1017 = .ok (.iadd, 1) := by decide +kernel
theorem dL_law_1018 : decode cL_law 1018 = .ok (.iaload, 1) := by decide +kernel
theorem dL_law_1019 : decode cL_law 1019 = .ok (.aload_n 0, 1) := by decide +kernel
theorem dL_law_1020 : decode cL_law 1020 = .ok (.iload_n 3, 1) := by decide +kernel
theorem dL_law_1021 : decode cL_law 1021 = .ok (.iconst 2, 1) := by decide +kernel
theorem dL_law_1022 : decode cL_law 1022 = .ok (.iadd, 1) := by decide +kernel
theorem dL_law_1023 : decode cL_law 1023 = .ok (.iaload, 1) := by decide +kernel
theorem dL_law_1024 : decode cL_law 1024 = .ok (.invokevirtual 124, 3) := by decide +kernel
theorem dL_law_1027 : decode cL_law 1027 = .ok (.aload_n 2, 1) := by decide +kernel
theorem dL_law_1028 : decode cL_law 1028 = .ok (.aload_n 0, 1) := by decide +kernel
theorem dL_law_1029 : decode cL_law 1029 = .ok (.iload_n 3, 1) := by decide +kernel
theorem dL_law_1030 : decode cL_law 1030 = .ok (.iconst 1, 1) := by decide +kernel
theorem dL_law_1031 : decode cL_law 1031 = .ok (.iadd, 1) := by decide +kernel
theorem dL_law_1032 : decode cL_law 1032 = .ok (.iaload, 1) := by decide +kernel
theorem dL_law_1033 : decode cL_law 1033 = .ok (.aload_n 0, 1) := by decide +kernel
theorem dL_law_1034 : decode cL_law 1034 = .ok (.iload_n 3, 1) := by decide +kernel
theorem dL_law_1035 : decode cL_law 1035 = .ok (.iconst 2, 1) := by decide +kernel
theorem dL_law_1036 : decode cL_law 1036 = .ok (.iadd, 1) := by decide +kernel
theorem dL_law_1037 : decode cL_law 1037 = .ok (.iaload, 1) := by decide +kernel
theorem dL_law_1038 : decode cL_law 1038 = .ok (.invokevirtual 127, 3) := by decide +kernel
theorem dL_law_1041 : decode cL_law 1041 = .ok (.if_icmp .eq 385, 3) := by decide +kernel
theorem dL_law_1044 : decode cL_law 1044 = .ok (.iconst 0, 1) := by decide +kernel
theorem dL_law_1045 : decode cL_law 1045 = .ok (.ireturn, 1) := by decide +kernel
theorem dL_law_1046 : decode cL_law 1046 = .ok (.aload_n 1, 1) := by decide +kernel
theorem dL_law_1047 : decode cL_law 1047 = .ok (.invokevirtual 128, 3) := by decide +kernel
theorem dL_law_1050 : decode cL_law 1050 = .ok (.aload_n 2, 1) := by decide +kernel
theorem dL_law_1051 : decode cL_law 1051 = .ok (.invokevirtual 132, 3) := by decide +kernel
theorem dL_law_1054 : decode cL_law 1054 = .ok (.if_icmp .eq 372, 3) := by decide +kernel
theorem dL_law_1057 : decode cL_law 1057 = .ok (.iconst 0, 1) := by decide +kernel
theorem dL_law_1058 : decode cL_law 1058 = .ok (.ireturn, 1) := by decide +kernel
theorem dL_law_1059 : decode cL_law 1059 = .ok (.aload_n 1, 1) := by decide +kernel
theorem dL_law_1060 : decode cL_law 1060 = .ok (.invokevirtual 133, 3) := by decide +kernel
theorem dL_law_1063 : decode cL_law 1063 = .ok (.aload_n 2, 1) := by decide +kernel
theorem dL_law_1064 : decode cL_law 1064 = .ok (.invokevirtual 136, 3) := by decide +kernel
theorem dL_law_1067 : decode cL_law 1067 = .ok (.if_icmp .eq 359, 3) := by decide +kernel
theorem dL_law_1070 : decode cL_law 1070 = .ok (.iconst 0, 1) := by decide +kernel
theorem dL_law_1071 : decode cL_law 1071 = .ok (.ireturn, 1) := by decide +kernel
theorem dL_law_1072 : decode cL_law 1072 = .ok (.aload_n 1, 1) := by decide +kernel
theorem dL_law_1073 : decode cL_law 1073 = .ok (.aload_n 0, 1) := by decide +kernel
theorem dL_law_1074 : decode cL_law 1074 = .ok (.iload_n 3, 1) := by decide +kernel
theorem dL_law_1075 : decode cL_law 1075 = .ok (.iconst 1, 1) := by decide +kernel
theorem dL_law_1076 : decode cL_law 1076 = .ok (.iadd, 1) := by decide +kernel
theorem dL_law_1077 : decode cL_law 1077 = .ok (.iaload, 1) := by decide +kernel
theorem dL_law_1078 : decode cL_law 1078 = .ok (.aload_n 0, 1) := by decide +kernel
theorem dL_law_1079 : decode cL_law 1079 = .ok (.iload_n 3, 1) := by decide +kernel
theorem dL_law_1080 : decode cL_law 1080 = .ok (.iconst 2, 1) := by decide +kernel
theorem dL_law_1081 : decode cL_law 1081 = .ok (.iadd, 1) := by decide +kernel
theorem dL_law_1082 : decode cL_law 1082 = .ok (.iaload, 1) := by decide +kernel
theorem dL_law_1083 : decode cL_law 1083 = .ok (.aload_n 0, 1) := by decide +kernel
theorem dL_law_1084 : decode cL_law 1084 = .ok (.iload_n 3, 1) := by decide +kernel
theorem dL_law_1085 : decode cL_law 1085 = .ok (.iconst 3, 1) := by decide +kernel
theorem dL_law_1086 : decode cL_law 1086 = .ok (.iadd, 1) := by decide +kernel
theorem dL_law_1087 : decode cL_law 1087 = .ok (.iaload, 1) := by decide +kernel
theorem dL_law_1088 : decode cL_law 1088 = .ok (.invokevirtual 137, 3) := by decide +kernel
theorem dL_law_1091 : decode cL_law 1091 = .ok (.aload_n 2, 1) := by decide +kernel
theorem dL_law_1092 : decode cL_law 1092 = .ok (.aload_n 0, 1) := by decide +kernel
theorem dL_law_1093 : decode cL_law 1093 = .ok (.iload_n 3, 1) := by decide +kernel
theorem dL_law_1094 : decode cL_law 1094 = .ok (.iconst 1, 1) := by decide +kernel
theorem dL_law_1095 : decode cL_law 1095 = .ok (.iadd, 1) := by decide +kernel
theorem dL_law_1096 : decode cL_law 1096 = .ok (.iaload, 1) := by decide +kernel
theorem dL_law_1097 : decode cL_law 1097 = .ok (.aload_n 0, 1) := by decide +kernel
theorem dL_law_1098 : decode cL_law 1098 = .ok (.iload_n 3, 1) := by decide +kernel
theorem dL_law_1099 : decode cL_law 1099 = .ok (.iconst 2, 1) := by decide +kernel
theorem dL_law_1100 : decode cL_law 1100 = .ok (.iadd, 1) := by decide +kernel
theorem dL_law_1101 : decode cL_law 1101 = .ok (.iaload, 1) := by decide +kernel
theorem dL_law_1102 : decode cL_law 1102 = .ok (.aload_n 0, 1) := by decide +kernel
theorem dL_law_1103 : decode cL_law 1103 = .ok (.iload_n 3, 1) := by decide +kernel
theorem dL_law_1104 : decode cL_law 1104 = .ok (.iconst 3, 1) := by decide +kernel
theorem dL_law_1105 : decode cL_law 1105 = .ok (.iadd, 1) := by decide +kernel
theorem dL_law_1106 : decode cL_law 1106 = .ok (.iaload, 1) := by decide +kernel
theorem dL_law_1107 : decode cL_law 1107 = .ok (.invokevirtual 140, 3) := by decide +kernel
theorem dL_law_1110 : decode cL_law 1110 = .ok (.if_icmp .eq 316, 3) := by decide +kernel
theorem dL_law_1113 : decode cL_law 1113 = .ok (.iconst 0, 1) := by decide +kernel
theorem dL_law_1114 : decode cL_law 1114 = .ok (.ireturn, 1) := by decide +kernel
theorem dL_law_1115 : decode cL_law 1115 = .ok (.aload_n 1, 1) := by decide +kernel
theorem dL_law_1116 : decode cL_law 1116 = .ok (.aload_n 0, 1) := by decide +kernel
theorem dL_law_1117 : decode cL_law 1117 = .ok (.iload_n 3, 1) := by decide +kernel
theorem dL_law_1118 : decode cL_law 1118 = .ok (.iconst 1, 1) := by decide +kernel
theorem dL_law_1119 : decode cL_law 1119 = .ok (.iadd, 1) := by decide +kernel
theorem dL_law_1120 : decode cL_law 1120 = .ok (.iaload, 1) := by decide +kernel
theorem dL_law_1121 : decode cL_law 1121 = .ok (.aload_n 0, 1) := by decide +kernel
theorem dL_law_1122 : decode cL_law 1122 = .ok (.iload_n 3, 1) := by decide +kernel
theorem dL_law_1123 : decode cL_law 1123 = .ok (.iconst 2, 1) := by decide +kernel
theorem dL_law_1124 : decode cL_law 1124 = .ok (.iadd, 1) := by decide +kernel
theorem dL_law_1125 : decode cL_law 1125 = .ok (.iaload, 1) := by decide +kernel
theorem dL_law_1126 : decode cL_law 1126 = .ok (.aload_n 0, 1) := by decide +kernel
theorem dL_law_1127 : decode cL_law 1127 = .ok (.iload_n 3, 1) := by decide +kernel
theorem dL_law_1128 : decode cL_law 1128 = .ok (.iconst 3, 1) := by decide +kernel
theorem dL_law_1129 : decode cL_law 1129 = .ok (.iadd, 1) := by decide +kernel
theorem dL_law_1130 : decode cL_law 1130 = .ok (.iaload, 1) := by decide +kernel
theorem dL_law_1131 : decode cL_law 1131 = .ok (.i2l, 1) := by decide +kernel
theorem dL_law_1132 : decode cL_law 1132 = .ok (.bipush 32, 2) := by decide +kernel
theorem dL_law_1134 : decode cL_law 1134 = .ok (.lshl, 1) := by decide +kernel
theorem dL_law_1135 : decode cL_law 1135 = .ok (.aload_n 0, 1) := by decide +kernel
theorem dL_law_1136 : decode cL_law 1136 = .ok (.iload_n 3, 1) := by decide +kernel
theorem dL_law_1137 : decode cL_law 1137 = .ok (.iconst 4, 1) := by decide +kernel
theorem dL_law_1138 : decode cL_law 1138 = .ok (.iadd, 1) := by decide +kernel
theorem dL_law_1139 : decode cL_law 1139 = .ok (.iaload, 1) := by decide +kernel
theorem dL_law_1140 : decode cL_law 1140 = .ok (.i2l, 1) := by decide +kernel
theorem dL_law_1141 : decode cL_law 1141 = .ok (.ldc2_w 141, 3) := by decide +kernel
theorem dL_law_1144 : decode cL_law 1144 = .ok (.land, 1) := by decide +kernel
theorem dL_law_1145 : decode cL_law 1145 = .ok (.lor, 1) := by decide +kernel
theorem dL_law_1146 : decode cL_law 1146 = .ok (.invokevirtual 143, 3) := by decide +kernel
theorem dL_law_1149 : decode cL_law 1149 = .ok (.aload_n 2, 1) := by decide +kernel
theorem dL_law_1150 : decode cL_law 1150 = .ok (.aload_n 0, 1) := by decide +kernel
theorem dL_law_1151 : decode cL_law 1151 = .ok (.iload_n 3, 1) := by decide +kernel
theorem dL_law_1152 : decode cL_law 1152 = .ok (.iconst 1, 1) := by decide +kernel
theorem dL_law_1153 : decode cL_law 1153 = .ok (.iadd, 1) := by decide +kernel
theorem dL_law_1154 : decode cL_law 1154 = .ok (.iaload, 1) := by decide +kernel
theorem dL_law_1155 : decode cL_law 1155 = .ok (.aload_n 0, 1) := by decide +kernel
theorem dL_law_1156 : decode cL_law 1156 = .ok (.iload_n 3, 1) := by decide +kernel
theorem dL_law_1157 : decode cL_law 1157 = .ok (.iconst 2, 1) := by decide +kernel
theorem dL_law_1158 : decode cL_law 1158 = .ok (.iadd, 1) := by decide +kernel
theorem dL_law_1159 : decode cL_law 1159 = .ok (.iaload, 1) := by decide +kernel
theorem dL_law_1160 : decode cL_law 1160 = .ok (.aload_n 0, 1) := by decide +kernel
theorem dL_law_1161 : decode cL_law 1161 = .ok (.iload_n 3, 1) := by decide +kernel
theorem dL_law_1162 : decode cL_law 1162 = .ok (.iconst 3, 1) := by decide +kernel
theorem dL_law_1163 : decode cL_law 1163 = .ok (.iadd, 1) := by decide +kernel
theorem dL_law_1164 : decode cL_law 1164 = .ok (.iaload, 1) := by decide +kernel
theorem dL_law_1165 : decode cL_law 1165 = .ok (.i2l, 1) := by decide +kernel
theorem dL_law_1166 : decode cL_law 1166 = .ok (.bipush 32, 2) := by decide +kernel
theorem dL_law_1168 : decode cL_law 1168 = .ok (.lshl, 1) := by decide +kernel
theorem dL_law_1169 : decode cL_law 1169 = .ok (.aload_n 0, 1) := by decide +kernel
theorem dL_law_1170 : decode cL_law 1170 = .ok (.iload_n 3, 1) := by decide +kernel
theorem dL_law_1171 : decode cL_law 1171 = .ok (.iconst 4, 1) := by decide +kernel
theorem dL_law_1172 : decode cL_law 1172 = .ok (.iadd, 1) := by decide +kernel
theorem dL_law_1173 : decode cL_law 1173 = .ok (.iaload, 1) := by decide +kernel
theorem dL_law_1174 : decode cL_law 1174 = .ok (.i2l, 1) := by decide +kernel
theorem dL_law_1175 : decode cL_law 1175 = .ok (.ldc2_w 141, 3) := by decide +kernel
theorem dL_law_1178 : decode cL_law 1178 = .ok (.land, 1) := by decide +kernel
theorem dL_law_1179 : decode cL_law 1179 = .ok (.lor, 1) := by decide +kernel
theorem dL_law_1180 : decode cL_law 1180 = .ok (.invokevirtual 147, 3) := by decide +kernel
theorem dL_law_1183 : decode cL_law 1183 = .ok (.lcmp, 1) := by decide +kernel
theorem dL_law_1184 : decode cL_law 1184 = .ok (.ifCond .eq 242, 3) := by decide +kernel
theorem dL_law_1187 : decode cL_law 1187 = .ok (.iconst 0, 1) := by decide +kernel
theorem dL_law_1188 : decode cL_law 1188 = .ok (.ireturn, 1) := by decide +kernel
theorem dL_law_1189 : decode cL_law 1189 = .ok (.aload_n 1, 1) := by decide +kernel
theorem dL_law_1190 : decode cL_law 1190 = .ok (.aload_n 0, 1) := by decide +kernel
theorem dL_law_1191 : decode cL_law 1191 = .ok (.iload_n 3, 1) := by decide +kernel
theorem dL_law_1192 : decode cL_law 1192 = .ok (.iconst 1, 1) := by decide +kernel
theorem dL_law_1193 : decode cL_law 1193 = .ok (.iadd, 1) := by decide +kernel
theorem dL_law_1194 : decode cL_law 1194 = .ok (.iaload, 1) := by decide +kernel
theorem dL_law_1195 : decode cL_law 1195 = .ok (.aload_n 0, 1) := by decide +kernel
theorem dL_law_1196 : decode cL_law 1196 = .ok (.iload_n 3, 1) := by decide +kernel
theorem dL_law_1197 : decode cL_law 1197 = .ok (.iconst 2, 1) := by decide +kernel
theorem dL_law_1198 : decode cL_law 1198 = .ok (.iadd, 1) := by decide +kernel
theorem dL_law_1199 : decode cL_law 1199 = .ok (.iaload, 1) := by decide +kernel
theorem dL_law_1200 : decode cL_law 1200 = .ok (.aload_n 0, 1) := by decide +kernel
theorem dL_law_1201 : decode cL_law 1201 = .ok (.iload_n 3, 1) := by decide +kernel
theorem dL_law_1202 : decode cL_law 1202 = .ok (.iconst 3, 1) := by decide +kernel
theorem dL_law_1203 : decode cL_law 1203 = .ok (.iadd, 1) := by decide +kernel
theorem dL_law_1204 : decode cL_law 1204 = .ok (.iaload, 1) := by decide +kernel
theorem dL_law_1205 : decode cL_law 1205 = .ok (.aload_n 0, 1) := by decide +kernel
theorem dL_law_1206 : decode cL_law 1206 = .ok (.iload_n 3, 1) := by decide +kernel
theorem dL_law_1207 : decode cL_law 1207 = .ok (.iconst 4, 1) := by decide +kernel
theorem dL_law_1208 : decode cL_law 1208 = .ok (.iadd, 1) := by decide +kernel
theorem dL_law_1209 : decode cL_law 1209 = .ok (.iaload, 1) := by decide +kernel
theorem dL_law_1210 : decode cL_law 1210 = .ok (.aload_n 0, 1) := by decide +kernel
theorem dL_law_1211 : decode cL_law 1211 = .ok (.iload_n 3, 1) := by decide +kernel
theorem dL_law_1212 : decode cL_law 1212 = .ok (.iconst 5, 1) := by decide +kernel
theorem dL_law_1213 : decode cL_law 1213 = .ok (.iadd, 1) := by decide +kernel
theorem dL_law_1214 : decode cL_law 1214 = .ok (.iaload, 1) := by decide +kernel
theorem dL_law_1215 : decode cL_law 1215 = .ok (.invokevirtual 148, 3) := by decide +kernel
theorem dL_law_1218 : decode cL_law 1218 = .ok (.aload_n 2, 1) := by decide +kernel
theorem dL_law_1219 : decode cL_law 1219 = .ok (.aload_n 0, 1) := by decide +kernel
theorem dL_law_1220 : decode cL_law 1220 = .ok (.iload_n 3, 1) := by decide +kernel
theorem dL_law_1221 : decode cL_law 1221 = .ok (.iconst 1, 1) := by decide +kernel
theorem dL_law_1222 : decode cL_law 1222 = .ok (.iadd, 1) := by decide +kernel
theorem dL_law_1223 : decode cL_law 1223 = .ok (.iaload, 1) := by decide +kernel
theorem dL_law_1224 : decode cL_law 1224 = .ok (.aload_n 0, 1) := by decide +kernel
theorem dL_law_1225 : decode cL_law 1225 = .ok (.iload_n 3, 1) := by decide +kernel
theorem dL_law_1226 : decode cL_law 1226 = .ok (.iconst 2, 1) := by decide +kernel
theorem dL_law_1227 : decode cL_law 1227 = .ok (.iadd, 1) := by decide +kernel
theorem dL_law_1228 : decode cL_law 1228 = .ok (.iaload, 1) := by decide +kernel
theorem dL_law_1229 : decode cL_law 1229 = .ok (.aload_n 0, 1) := by decide +kernel
theorem dL_law_1230 : decode cL_law 1230 = .ok (.iload_n 3, 1) := by decide +kernel
theorem dL_law_1231 : decode cL_law 1231 = .ok (.iconst 3, 1) := by decide +kernel
theorem dL_law_1232 : decode cL_law 1232 = .ok (.iadd, 1) := by decide +kernel
theorem dL_law_1233 : decode cL_law 1233 = .ok (.iaload, 1) := by decide +kernel
theorem dL_law_1234 : decode cL_law 1234 = .ok (.aload_n 0, 1) := by decide +kernel
theorem dL_law_1235 : decode cL_law 1235 = .ok (.iload_n 3, 1) := by decide +kernel
theorem dL_law_1236 : decode cL_law 1236 = .ok (.iconst 4, 1) := by decide +kernel
theorem dL_law_1237 : decode cL_law 1237 = .ok (.iadd, 1) := by decide +kernel
theorem dL_law_1238 : decode cL_law 1238 = .ok (.iaload, 1) := by decide +kernel
theorem dL_law_1239 : decode cL_law 1239 = .ok (.aload_n 0, 1) := by decide +kernel
theorem dL_law_1240 : decode cL_law 1240 = .ok (.iload_n 3, 1) := by decide +kernel
theorem dL_law_1241 : decode cL_law 1241 = .ok (.iconst 5, 1) := by decide +kernel
theorem dL_law_1242 : decode cL_law 1242 = .ok (.iadd, 1) := by decide +kernel
theorem dL_law_1243 : decode cL_law 1243 = .ok (.iaload, 1) := by decide +kernel
theorem dL_law_1244 : decode cL_law 1244 = .ok (.invokevirtual 152, 3) := by decide +kernel
theorem dL_law_1247 : decode cL_law 1247 = .ok (.if_icmp .eq 179, 3) := by decide +kernel
theorem dL_law_1250 : decode cL_law 1250 = .ok (.iconst 0, 1) := by decide +kernel
theorem dL_law_1251 : decode cL_law 1251 = .ok (.ireturn, 1) := by decide +kernel
theorem dL_law_1252 : decode cL_law 1252 = .ok (.aload_n 1, 1) := by decide +kernel
theorem dL_law_1253 : decode cL_law 1253 = .ok (.aload_n 0, 1) := by decide +kernel
theorem dL_law_1254 : decode cL_law 1254 = .ok (.iload_n 3, 1) := by decide +kernel
theorem dL_law_1255 : decode cL_law 1255 = .ok (.iconst 1, 1) := by decide +kernel
theorem dL_law_1256 : decode cL_law 1256 = .ok (.iadd, 1) := by decide +kernel
theorem dL_law_1257 : decode cL_law 1257 = .ok (.iaload, 1) := by decide +kernel
theorem dL_law_1258 : decode cL_law 1258 = .ok (.invokevirtual 153, 3) := by decide +kernel
theorem dL_law_1261 : decode cL_law 1261 = .ok (.aload_n 2, 1) := by decide +kernel
theorem dL_law_1262 : decode cL_law 1262 = .ok (.aload_n 0, 1) := by decide +kernel
theorem dL_law_1263 : decode cL_law 1263 = .ok (.iload_n 3, 1) := by decide +kernel
theorem dL_law_1264 : decode cL_law 1264 = .ok (.iconst 1, 1) := by decide +kernel
theorem dL_law_1265 : decode cL_law 1265 = .ok (.iadd, 1) := by decide +kernel
theorem dL_law_1266 : decode cL_law 1266 = .ok (.iaload, 1) := by decide +kernel
theorem dL_law_1267 : decode cL_law 1267 = .ok (.invokevirtual 156, 3) := by decide +kernel
theorem dL_law_1270 : decode cL_law 1270 = .ok (.if_icmp .eq 156, 3) := by decide +kernel
theorem dL_law_1273 : decode cL_law 1273 = .ok (.iconst 0, 1) := by decide +kernel
theorem dL_law_1274 : decode cL_law 1274 = .ok (.ireturn, 1) := by decide +kernel
theorem dL_law_1275 : decode cL_law 1275 = .ok (.aload_n 1, 1) := by decide +kernel
theorem dL_law_1276 : decode cL_law 1276 = .ok (.aload_n 0, 1) := by decide +kernel
theorem dL_law_1277 : decode cL_law 1277 = .ok (.iload_n 3, 1) := by decide +kernel
theorem dL_law_1278 : decode cL_law 1278 = .ok (.iconst 1, 1) := by decide +kernel
theorem dL_law_1279 : decode cL_law 1279 = .ok (.iadd, 1) := by decide +kernel
theorem dL_law_1280 : decode cL_law 1280 = .ok (.iaload, 1) := by decide +kernel
theorem dL_law_1281 : decode cL_law 1281 = .ok (.aload_n 0, 1) := by decide +kernel
theorem dL_law_1282 : decode cL_law 1282 = .ok (.iload_n 3, 1) := by decide +kernel
theorem dL_law_1283 : decode cL_law 1283 = .ok (.iconst 2, 1) := by decide +kernel
theorem dL_law_1284 : decode cL_law 1284 = .ok (.iadd, 1) := by decide +kernel
theorem dL_law_1285 : decode cL_law 1285 = .ok (.iaload, 1) := by decide +kernel
theorem dL_law_1286 : decode cL_law 1286 = .ok (.invokevirtual 157, 3) := by decide +kernel
theorem dL_law_1289 : decode cL_law 1289 = .ok (.aload_n 2, 1) := by decide +kernel
theorem dL_law_1290 : decode cL_law 1290 = .ok (.aload_n 0, 1) := by decide +kernel
theorem dL_law_1291 : decode cL_law 1291 = .ok (.iload_n 3, 1) := by decide +kernel
theorem dL_law_1292 : decode cL_law 1292 = .ok (.iconst 1, 1) := by decide +kernel
theorem dL_law_1293 : decode cL_law 1293 = .ok (.iadd, 1) := by decide +kernel
theorem dL_law_1294 : decode cL_law 1294 = .ok (.iaload, 1) := by decide +kernel
theorem dL_law_1295 : decode cL_law 1295 = .ok (.aload_n 0, 1) := by decide +kernel
theorem dL_law_1296 : decode cL_law 1296 = .ok (.iload_n 3, 1) := by decide +kernel
theorem dL_law_1297 : decode cL_law 1297 = .ok (.iconst 2, 1) := by decide +kernel
theorem dL_law_1298 : decode cL_law 1298 = .ok (.iadd, 1) := by decide +kernel
theorem dL_law_1299 : decode cL_law 1299 = .ok (.iaload, 1) := by decide +kernel
theorem dL_law_1300 : decode cL_law 1300 = .ok (.invokevirtual 160, 3) := by decide +kernel
theorem dL_law_1303 : decode cL_law 1303 = .ok (.if_icmp .eq 123, 3) := by decide +kernel
theorem dL_law_1306 : decode cL_law 1306 = .ok (.iconst 0, 1) := by decide +kernel
theorem dL_law_1307 : decode cL_law 1307 = .ok (.ireturn, 1) := by decide +kernel
theorem dL_law_1308 : decode cL_law 1308 = .ok (.aload_n 1, 1) := by decide +kernel
theorem dL_law_1309 : decode cL_law 1309 = .ok (.aload_n 0, 1) := by decide +kernel
theorem dL_law_1310 : decode cL_law 1310 = .ok (.iload_n 3, 1) := by decide +kernel
theorem dL_law_1311 : decode cL_law 1311 = .ok (.iconst 1, 1) := by decide +kernel
theorem dL_law_1312 : decode cL_law 1312 = .ok (.iadd, 1) := by decide +kernel
theorem dL_law_1313 : decode cL_law 1313 = .ok (.iaload, 1) := by decide +kernel
theorem dL_law_1314 : decode cL_law 1314 = .ok (.aload_n 0, 1) := by decide +kernel
theorem dL_law_1315 : decode cL_law 1315 = .ok (.iload_n 3, 1) := by decide +kernel
theorem dL_law_1316 : decode cL_law 1316 = .ok (.iconst 2, 1) := by decide +kernel
theorem dL_law_1317 : decode cL_law 1317 = .ok (.iadd, 1) := by decide +kernel
theorem dL_law_1318 : decode cL_law 1318 = .ok (.iaload, 1) := by decide +kernel
theorem dL_law_1319 : decode cL_law 1319 = .ok (.invokevirtual 161, 3) := by decide +kernel
theorem dL_law_1322 : decode cL_law 1322 = .ok (.aload_n 2, 1) := by decide +kernel
theorem dL_law_1323 : decode cL_law 1323 = .ok (.aload_n 0, 1) := by decide +kernel
theorem dL_law_1324 : decode cL_law 1324 = .ok (.iload_n 3, 1) := by decide +kernel
theorem dL_law_1325 : decode cL_law 1325 = .ok (.iconst 1, 1) := by decide +kernel
theorem dL_law_1326 : decode cL_law 1326 = .ok (.iadd, 1) := by decide +kernel
theorem dL_law_1327 : decode cL_law 1327 = .ok (.iaload, 1) := by decide +kernel
theorem dL_law_1328 : decode cL_law 1328 = .ok (.aload_n 0, 1) := by decide +kernel
theorem dL_law_1329 : decode cL_law 1329 = .ok (.iload_n 3, 1) := by decide +kernel
theorem dL_law_1330 : decode cL_law 1330 = .ok (.iconst 2, 1) := by decide +kernel
theorem dL_law_1331 : decode cL_law 1331 = .ok (.iadd, 1) := by decide +kernel
theorem dL_law_1332 : decode cL_law 1332 = .ok (.iaload, 1) := by decide +kernel
theorem dL_law_1333 : decode cL_law 1333 = .ok (.invokevirtual 164, 3) := by decide +kernel
theorem dL_law_1336 : decode cL_law 1336 = .ok (.if_icmp .eq 90, 3) := by decide +kernel
theorem dL_law_1339 : decode cL_law 1339 = .ok (.iconst 0, 1) := by decide +kernel
theorem dL_law_1340 : decode cL_law 1340 = .ok (.ireturn, 1) := by decide +kernel
theorem dL_law_1341 : decode cL_law 1341 = .ok (.aload_n 1, 1) := by decide +kernel
theorem dL_law_1342 : decode cL_law 1342 = .ok (.invokevirtual 165, 3) := by decide +kernel
theorem dL_law_1345 : decode cL_law 1345 = .ok (.aload_n 2, 1) := by decide +kernel
theorem dL_law_1346 : decode cL_law 1346 = .ok (.invokevirtual 168, 3) := by decide +kernel
theorem dL_law_1349 : decode cL_law 1349 = .ok (.if_icmp .eq 77, 3) := by decide +kernel
theorem dL_law_1352 : decode cL_law 1352 = .ok (.iconst 0, 1) := by decide +kernel
theorem dL_law_1353 : decode cL_law 1353 = .ok (.ireturn, 1) := by decide +kernel
theorem dL_law_1354 : decode cL_law 1354 = .ok (.aload_n 1, 1) := by decide +kernel
theorem dL_law_1355 : decode cL_law 1355 = .ok (.invokevirtual 169, 3) := by decide +kernel
theorem dL_law_1358 : decode cL_law 1358 = .ok (.aload_n 2, 1) := by decide +kernel
theorem dL_law_1359 : decode cL_law 1359 = .ok (.invokevirtual 172, 3) := by decide +kernel
theorem dL_law_1362 : decode cL_law 1362 = .ok (.if_icmp .eq 64, 3) := by decide +kernel
theorem dL_law_1365 : decode cL_law 1365 = .ok (.iconst 0, 1) := by decide +kernel
theorem dL_law_1366 : decode cL_law 1366 = .ok (.ireturn, 1) := by decide +kernel
theorem dL_law_1367 : decode cL_law 1367 = .ok (.aload_n 1, 1) := by decide +kernel
theorem dL_law_1368 : decode cL_law 1368 = .ok (.invokevirtual 173, 3) := by decide +kernel
theorem dL_law_1371 : decode cL_law 1371 = .ok (.aload_n 2, 1) := by decide +kernel
theorem dL_law_1372 : decode cL_law 1372 = .ok (.invokevirtual 176, 3) := by decide +kernel
theorem dL_law_1375 : decode cL_law 1375 = .ok (.if_icmp .eq 51, 3) := by decide +kernel
theorem dL_law_1378 : decode cL_law 1378 = .ok (.iconst 0, 1) := by decide +kernel
theorem dL_law_1379 : decode cL_law 1379 = .ok (.ireturn, 1) := by decide +kernel
theorem dL_law_1380 : decode cL_law 1380 = .ok (.aload_n 1, 1) := by decide +kernel
theorem dL_law_1381 : decode cL_law 1381 = .ok (.aload_n 0, 1) := by decide +kernel
theorem dL_law_1382 : decode cL_law 1382 = .ok (.iload_n 3, 1) := by decide +kernel
theorem dL_law_1383 : decode cL_law 1383 = .ok (.iconst 1, 1) := by decide +kernel
theorem dL_law_1384 : decode cL_law 1384 = .ok (.iadd, 1) := by decide +kernel
theorem dL_law_1385 : decode cL_law 1385 = .ok (.iaload, 1) := by decide +kernel
theorem dL_law_1386 : decode cL_law 1386 = .ok (.invokevirtual 177, 3) := by decide +kernel
theorem dL_law_1389 : decode cL_law 1389 = .ok (.aload_n 2, 1) := by decide +kernel
theorem dL_law_1390 : decode cL_law 1390 = .ok (.aload_n 0, 1) := by decide +kernel
theorem dL_law_1391 : decode cL_law 1391 = .ok (.iload_n 3, 1) := by decide +kernel
theorem dL_law_1392 : decode cL_law 1392 = .ok (.iconst 1, 1) := by decide +kernel
theorem dL_law_1393 : decode cL_law 1393 = .ok (.iadd, 1) := by decide +kernel
theorem dL_law_1394 : decode cL_law 1394 = .ok (.iaload, 1) := by decide +kernel
theorem dL_law_1395 : decode cL_law 1395 = .ok (.invokevirtual 180, 3) := by decide +kernel
theorem dL_law_1398 : decode cL_law 1398 = .ok (.if_icmp .eq 28, 3) := by decide +kernel
theorem dL_law_1401 : decode cL_law 1401 = .ok (.iconst 0, 1) := by decide +kernel
theorem dL_law_1402 : decode cL_law 1402 = .ok (.ireturn, 1) := by decide +kernel
theorem dL_law_1403 : decode cL_law 1403 = .ok (.aload_n 1, 1) := by decide +kernel
theorem dL_law_1404 : decode cL_law 1404 = .ok (.aload_n 0, 1) := by decide +kernel
theorem dL_law_1405 : decode cL_law 1405 = .ok (.iload_n 3, 1) := by decide +kernel
theorem dL_law_1406 : decode cL_law 1406 = .ok (.iconst 1, 1) := by decide +kernel
theorem dL_law_1407 : decode cL_law 1407 = .ok (.iadd, 1) := by decide +kernel
theorem dL_law_1408 : decode cL_law 1408 = .ok (.iaload, 1) := by decide +kernel
theorem dL_law_1409 : decode cL_law 1409 = .ok (.invokevirtual 181, 3) := by decide +kernel
theorem dL_law_1412 : decode cL_law 1412 = .ok (.aload_n 2, 1) := by decide +kernel
theorem dL_law_1413 : decode cL_law 1413 = .ok (.aload_n 0, 1) := by decide +kernel
theorem dL_law_1414 : decode cL_law 1414 = .ok (.iload_n 3, 1) := by decide +kernel
theorem dL_law_1415 : decode cL_law 1415 = .ok (.iconst 1, 1) := by decide +kernel
theorem dL_law_1416 : decode cL_law 1416 = .ok (.iadd, 1) := by decide +kernel
theorem dL_law_1417 : decode cL_law 1417 = .ok (.iaload, 1) := by decide +kernel
theorem dL_law_1418 : decode cL_law 1418 = .ok (.invokevirtual 184, 3) := by decide +kernel
theorem dL_law_1421 : decode cL_law 1421 = .ok (.if_icmp .eq 5, 3) := by decide +kernel
theorem dL_law_1424 : decode cL_law 1424 = .ok (.iconst 0, 1) := by decide +kernel
theorem dL_law_1425 : decode cL_law 1425 = .ok (.ireturn, 1) := by decide +kernel
theorem dL_law_1426 : decode cL_law 1426 = .ok (.iinc 3 6, 3) := by decide +kernel
theorem dL_law_1429 : decode cL_law 1429 = .ok (.goto (-1411), 3) := by decide +kernel
theorem dL_law_1432 : decode cL_law 1432 = .ok (.iconst 1, 1) := by decide +kernel
theorem dL_law_1433 : decode cL_law 1433 = .ok (.ireturn, 1) := by decide +kernel
end
section
theorem dJ0_length_8abf5_0 : decode cJ0_length_8abf5 0 = .ok (.aload_n 0, 1) := by decide +kernel
theorem dJ0_length_8abf5_1 : decode cJ0_length_8abf5 1 = .ok (.getfield 9, 3) := by decide +kernel
theorem dJ0_length_8abf5_4 : decode cJ0_length_8abf5 4 = .ok (.arraylength, 1) := by decide +kernel
theorem dJ0_length_8abf5_5 : decode cJ0_length_8abf5 5 = .ok (.aload_n 0, 1) := by decide +kernel
theorem dJ0_length_8abf5_6 : decode cJ0_length_8abf5 6 = .ok (.invokevirtual 335, 3) := by decide +kernel
theorem dJ0_length_8abf5_9 : decode cJ0_length_8abf5 9 = .ok (.ishr, 1) := by decide +kernel
theorem dJ0_length_8abf5_10 : decode cJ0_length_8abf5 10 = .ok (.ireturn, 1) := by decide +kernel
theorem dJ0_charAt_5068e_0 : decode cJ0_charAt_5068e 0 = .ok (.aload_n 0, 1) := by decide +kernel
theorem dJ0_charAt_5068e_1 : decode cJ0_charAt_5068e 1 = .ok (.invokevirtual 492, 3) := by decide +kernel
theorem dJ0_charAt_5068e_4 : decode cJ0_charAt_5068e 4 = .ok (.ifCond .eq 12, 3) := by decide +kernel
theorem dJ0_charAt_5068e_7 : decode cJ0_charAt_5068e 7 = .ok (.aload_n 0, 1) := by decide +kernel
theorem dJ0_charAt_5068e_8 : decode cJ0_charAt_5068e 8 = .ok (.getfield 9, 3) := by decide +kernel
theorem dJ0_charAt_5068e_11 : decode cJ0_charAt_5068e 11 = .ok (.iload_n 1, 1) := by decide +kernel
theorem dJ0_charAt_5068e_12 : decode cJ0_charAt_5068e 12 = .ok (.invokestatic 495, 3) := by decide +kernel
theorem dJ0_charAt_5068e_15 : decode cJ0_charAt_5068e 15 = .ok (.ireturn, 1) := by decide +kernel
theorem dJ0_charAt_5068e_16 : decode cJ0_charAt_5068e 16 = .ok (.aload_n 0, 1) := by decide +kernel
theorem dJ0_charAt_5068e_17 : decode cJ0_charAt_5068e 17 = .ok (.getfield 9, 3) := by decide +kernel
theorem dJ0_charAt_5068e_20 : decode cJ0_charAt_5068e 20 = .ok (.iload_n 1, 1) := by decide +kernel
theorem dJ0_charAt_5068e_21 : decode cJ0_charAt_5068e 21 = .ok (.invokestatic 498, 3) := by decide +kernel
theorem dJ0_charAt_5068e_24 : decode cJ0_charAt_5068e 24 = .ok (.ireturn, 1) := by decide +kernel
theorem dJ0_coder_7d493_0 : decode cJ0_coder_7d493 0 = .ok (.getstatic 38, 3) := by decide +kernel
theorem dJ0_coder_7d493_3 : decode cJ0_coder_7d493 3 = .ok (.ifCond .eq 10, 3) := by decide +kernel
theorem dJ0_coder_7d493_6 : decode cJ0_coder_7d493 6 = .ok (.aload_n 0, 1) := by decide +kernel
theorem dJ0_coder_7d493_7 : decode cJ0_coder_7d493 7 = .ok (.getfield 15, 3) := by decide +kernel
theorem dJ0_coder_7d493_10 : decode cJ0_coder_7d493 10 = .ok (.goto 4, 3) := by decide +kernel
theorem dJ0_coder_7d493_13 : decode cJ0_coder_7d493 13 = .ok (.iconst 1, 1) := by decide +kernel
theorem dJ0_coder_7d493_14 : decode cJ0_coder_7d493 14 = .ok (.ireturn, 1) := by decide +kernel
theorem dJ0_isLatin1_aae02_0 : decode cJ0_isLatin1_aae02 0 = .ok (.getstatic 38, 3) := by decide +kernel
theorem dJ0_isLatin1_aae02_3 : decode cJ0_isLatin1_aae02 3 = .ok (.ifCond .eq 14, 3) := by decide +kernel
theorem dJ0_isLatin1_aae02_6 : decode cJ0_isLatin1_aae02 6 = .ok (.aload_n 0, 1) := by decide +kernel
theorem dJ0_isLatin1_aae02_7 : decode cJ0_isLatin1_aae02 7 = .ok (.getfield 15, 3) := by decide +kernel
theorem dJ0_isLatin1_aae02_10 : decode cJ0_isLatin1_aae02 10 = .ok (.ifCond .ne 7, 3) := by decide +kernel
theorem dJ0_isLatin1_aae02_13 : decode cJ0_isLatin1_aae02 13 = .ok (.iconst 1, 1) := by decide +kernel
theorem dJ0_isLatin1_aae02_14 : decode cJ0_isLatin1_aae02 14 = .ok (.goto 4, 3) := by decide +kernel
theorem dJ0_isLatin1_aae02_17 : decode cJ0_isLatin1_aae02 17 = .ok (.iconst 0, 1) := by decide +kernel
theorem dJ0_isLatin1_aae02_18 : decode cJ0_isLatin1_aae02 18 = .ok (.ireturn, 1) := by decide +kernel
theorem dJ0_checkIndex_df160_0 : decode cJ0_checkIndex_df160 0 = .ok (.iload_n 0, 1) := by decide +kernel
theorem dJ0_checkIndex_df160_1 : decode cJ0_checkIndex_df160 1 = .ok (.iload_n 1, 1) := by decide +kernel
theorem dJ0_checkIndex_df160_2 : decode cJ0_checkIndex_df160 2 = .ok (.getstatic 1053, 3) := by decide +kernel
theorem dJ0_checkIndex_df160_5 : decode cJ0_checkIndex_df160 5 = .ok (.invokestatic 1059, 3) := by decide +kernel
theorem dJ0_checkIndex_df160_8 : decode cJ0_checkIndex_df160 8 = .ok (.pop, 1) := by decide +kernel
theorem dJ0_checkIndex_df160_9 : decode cJ0_checkIndex_df160 9 = .ok (.return_, 1) := by decide +kernel
theorem dJ1_charAt_3b067_0 : decode cJ1_charAt_3b067 0 = .ok (.iload_n 1, 1) := by decide +kernel
theorem dJ1_charAt_3b067_1 : decode cJ1_charAt_3b067 1 = .ok (.aload_n 0, 1) := by decide +kernel
theorem dJ1_charAt_3b067_2 : decode cJ1_charAt_3b067 2 = .ok (.arraylength, 1) := by decide +kernel
theorem dJ1_charAt_3b067_3 : decode cJ1_charAt_3b067 3 = .ok (.invokestatic 9, 3) := by decide +kernel
theorem dJ1_charAt_3b067_6 : decode cJ1_charAt_3b067 6 = .ok (.aload_n 0, 1) := by decide +kernel
theorem dJ1_charAt_3b067_7 : decode cJ1_charAt_3b067 7 = .ok (.iload_n 1, 1) := by decide +kernel
theorem dJ1_charAt_3b067_8 : decode cJ1_charAt_3b067 8 = .ok (.baload, 1) := by decide +kernel
theorem dJ1_charAt_3b067_9 : decode cJ1_charAt_3b067 9 = .ok (.sipush 255, 3) := by decide +kernel
theorem dJ1_charAt_3b067_12 : decode cJ1_charAt_3b067 12 = .ok (.iand, 1) := by decide +kernel
theorem dJ1_charAt_3b067_13 : decode cJ1_charAt_3b067 13 = .ok (.i2c, 1) := by decide +kernel
theorem dJ1_charAt_3b067_14 : decode cJ1_charAt_3b067 14 = .ok (.ireturn, 1) := by decide +kernel
theorem dJ2_getChar_3b067_0 : decode cJ2_getChar_3b067 0 = .ok (.getstatic 44, 3) := by decide +kernel
theorem dJ2_getChar_3b067_3 : decode cJ2_getChar_3b067 3 = .ok (.ifCond .ne 25, 3) := by decide +kernel
theorem dJ2_getChar_3b067_6 : decode cJ2_getChar_3b067 6 = .ok (.iload_n 1, 1) := by decide +kernel
theorem dJ2_getChar_3b067_7 : decode cJ2_getChar_3b067 7 = .ok (.ifCond .lt 11, 3) := by decide +kernel
theorem dJ2_getChar_3b067_10 : decode cJ2_getChar_3b067 10 = .ok (.iload_n 1, 1) := by decide +kernel
theorem dJ2_getChar_3b067_11 : decode cJ2_getChar_3b067 11 = .ok (.aload_n 0, 1) := by decide +kernel
theorem dJ2_getChar_3b067_12 : decode cJ2_getChar_3b067 12 = .ok (.invokestatic 48, 3) := by decide +kernel
theorem dJ2_getChar_3b067_15 : decode cJ2_getChar_3b067 15 = .ok (.if_icmp .lt 13, 3) := by decide +kernel
theorem dJ2_getChar_3b067_18 : decode cJ2_getChar_3b067 18 = .ok (.new 52, 3) := by decide +kernel
theorem dJ2_getChar_3b067_21 : decode cJ2_getChar_3b067 21 = .ok (.dup, 1) := by decide +kernel
theorem dJ2_getChar_3b067_22 : decode cJ2_getChar_3b067 22 = .ok (.ldc 54, 2) := by decide +kernel
theorem dJ2_getChar_3b067_24 : decode cJ2_getChar_3b067 24 = .ok (.invokespecial 56, 3) := by decide +kernel
theorem dJ2_getChar_3b067_27 : decode cJ2_getChar_3b067 27 = .ok (.athrow, 1) := by decide +kernel
theorem dJ2_getChar_3b067_28 : decode cJ2_getChar_3b067 28 = .ok (.iload_n 1, 1) := by decide +kernel
theorem dJ2_getChar_3b067_29 : decode cJ2_getChar_3b067 29 = .ok (.iconst 1, 1) := by decide +kernel
theorem dJ2_getChar_3b067_30 : decode cJ2_getChar_3b067 30 = .ok (.ishl, 1) := by decide +kernel
theorem dJ2_getChar_3b067_31 : decode cJ2_getChar_3b067 31 = .ok (.istore_n 1, 1) := by decide +kernel
theorem dJ2_getChar_3b067_32 : decode cJ2_getChar_3b067 32 = .ok (.aload_n 0, 1) := by decide +kernel
theorem dJ2_getChar_3b067_33 : decode cJ2_getChar_3b067 33 = .ok (.iload_n 1, 1) := by decide +kernel
theorem dJ2_getChar_3b067_34 : decode cJ2_getChar_3b067 34 = .ok (.iinc 1 1, 3) := by decide +kernel
theorem dJ2_getChar_3b067_37 : decode cJ2_getChar_3b067 37 = .ok (.baload, 1) := by decide +kernel
theorem dJ2_getChar_3b067_38 : decode cJ2_getChar_3b067 38 = .ok (.sipush 255, 3) := by decide +kernel
theorem dJ2_getChar_3b067_41 : decode cJ2_getChar_3b067 41 = .ok (.iand, 1) := by decide +kernel
theorem dJ2_getChar_3b067_42 : decode cJ2_getChar_3b067 42 = .ok (.getstatic 59, 3) := by decide +kernel
theorem dJ2_getChar_3b067_45 : decode cJ2_getChar_3b067 45 = .ok (.ishl, 1) := by decide +kernel
theorem dJ2_getChar_3b067_46 : decode cJ2_getChar_3b067 46 = .ok (.aload_n 0, 1) := by decide +kernel
theorem dJ2_getChar_3b067_47 : decode cJ2_getChar_3b067 47 = .ok (.iload_n 1, 1) := by decide +kernel
theorem dJ2_getChar_3b067_48 : decode cJ2_getChar_3b067 48 = .ok (.baload, 1) := by decide +kernel
theorem dJ2_getChar_3b067_49 : decode cJ2_getChar_3b067 49 = .ok (.sipush 255, 3) := by decide +kernel
theorem dJ2_getChar_3b067_52 : decode cJ2_getChar_3b067 52 = .ok (.iand, 1) := by decide +kernel
theorem dJ2_getChar_3b067_53 : decode cJ2_getChar_3b067 53 = .ok (.getstatic 63, 3) := by decide +kernel
theorem dJ2_getChar_3b067_56 : decode cJ2_getChar_3b067 56 = .ok (.ishl, 1) := by decide +kernel
theorem dJ2_getChar_3b067_57 : decode cJ2_getChar_3b067 57 = .ok (.ior, 1) := by decide +kernel
theorem dJ2_getChar_3b067_58 : decode cJ2_getChar_3b067 58 = .ok (.i2c, 1) := by decide +kernel
theorem dJ2_getChar_3b067_59 : decode cJ2_getChar_3b067 59 = .ok (.ireturn, 1) := by decide +kernel
theorem dJ2_length_9d52b_0 : decode cJ2_length_9d52b 0 = .ok (.aload_n 0, 1) := by decide +kernel
theorem dJ2_length_9d52b_1 : decode cJ2_length_9d52b 1 = .ok (.arraylength, 1) := by decide +kernel
theorem dJ2_length_9d52b_2 : decode cJ2_length_9d52b 2 = .ok (.iconst 1, 1) := by decide +kernel
theorem dJ2_length_9d52b_3 : decode cJ2_length_9d52b 3 = .ok (.ishr, 1) := by decide +kernel
theorem dJ2_length_9d52b_4 : decode cJ2_length_9d52b 4 = .ok (.ireturn, 1) := by decide +kernel
theorem dJ2_charAt_3b067_0 : decode cJ2_charAt_3b067 0 = .ok (.iload_n 1, 1) := by decide +kernel
theorem dJ2_charAt_3b067_1 : decode cJ2_charAt_3b067 1 = .ok (.aload_n 0, 1) := by decide +kernel
theorem dJ2_charAt_3b067_2 : decode cJ2_charAt_3b067 2 = .ok (.invokestatic 67, 3) := by decide +kernel
theorem dJ2_charAt_3b067_5 : decode cJ2_charAt_3b067 5 = .ok (.aload_n 0, 1) := by decide +kernel
theorem dJ2_charAt_3b067_6 : decode cJ2_charAt_3b067 6 = .ok (.iload_n 1, 1) := by decide +kernel
theorem dJ2_charAt_3b067_7 : decode cJ2_charAt_3b067 7 = .ok (.invokestatic 71, 3) := by decide +kernel
theorem dJ2_charAt_3b067_10 : decode cJ2_charAt_3b067 10 = .ok (.ireturn, 1) := by decide +kernel
theorem dJ2_checkIndex_2214a_0 : decode cJ2_checkIndex_2214a 0 = .ok (.iload_n 0, 1) := by decide +kernel
theorem dJ2_checkIndex_2214a_1 : decode cJ2_checkIndex_2214a 1 = .ok (.aload_n 1, 1) := by decide +kernel
theorem dJ2_checkIndex_2214a_2 : decode cJ2_checkIndex_2214a 2 = .ok (.invokestatic 48, 3) := by decide +kernel
theorem dJ2_checkIndex_2214a_5 : decode cJ2_checkIndex_2214a 5 = .ok (.invokestatic 414, 3) := by decide +kernel
theorem dJ2_checkIndex_2214a_8 : decode cJ2_checkIndex_2214a 8 = .ok (.return_, 1) := by decide +kernel
theorem dJ3_checkIndex_8e157_0 : decode cJ3_checkIndex_8e157 0 = .ok (.iload_n 0, 1) := by decide +kernel
theorem dJ3_checkIndex_8e157_1 : decode cJ3_checkIndex_8e157 1 = .ok (.ifCond .lt 8, 3) := by decide +kernel
theorem dJ3_checkIndex_8e157_4 : decode cJ3_checkIndex_8e157 4 = .ok (.iload_n 0, 1) := by decide +kernel
theorem dJ3_checkIndex_8e157_5 : decode cJ3_checkIndex_8e157 5 = .ok (.iload_n 1, 1) := by decide +kernel
theorem dJ3_checkIndex_8e157_6 : decode cJ3_checkIndex_8e157 6 = .ok (.if_icmp .lt 10, 3) := by decide +kernel
theorem dJ3_checkIndex_8e157_9 : decode cJ3_checkIndex_8e157 9 = .ok (.aload_n 2, 1) := by decide +kernel
theorem dJ3_checkIndex_8e157_10 : decode cJ3_checkIndex_8e157 10 = .ok (.iload_n 0, 1) := by decide +kernel
theorem dJ3_checkIndex_8e157_11 : decode cJ3_checkIndex_8e157 11 = .ok (.iload_n 1, 1) := by decide +kernel
theorem dJ3_checkIndex_8e157_12 : decode cJ3_checkIndex_8e157 12 = .ok (.invokestatic 95, 3) := by decide +kernel
theorem dJ3_checkIndex_8e157_15 : decode cJ3_checkIndex_8e157 15 = .ok (.athrow, 1) := by decide +kernel
theorem dJ3_checkIndex_8e157_16 : decode cJ3_checkIndex_8e157 16 = .ok (.iload_n 0, 1) := by decide +kernel
theorem dJ3_checkIndex_8e157_17 : decode cJ3_checkIndex_8e157 17 = .ok (.ireturn, 1) := by decide +kernel
theorem dJ9_max_7cf53_0 : decode cJ9_max_7cf53 0 = .ok (.iload_n 0, 1) := by decide +kernel
theorem dJ9_max_7cf53_1 : decode cJ9_max_7cf53 1 = .ok (.iload_n 1, 1) := by decide +kernel
theorem dJ9_max_7cf53_2 : decode cJ9_max_7cf53 2 = .ok (.if_icmp .lt 7, 3) := by decide +kernel
theorem dJ9_max_7cf53_5 : decode cJ9_max_7cf53 5 = .ok (.iload_n 0, 1) := by decide +kernel
theorem dJ9_max_7cf53_6 : decode cJ9_max_7cf53 6 = .ok (.goto 4, 3) := by decide +kernel
theorem dJ9_max_7cf53_9 : decode cJ9_max_7cf53 9 = .ok (.iload_n 1, 1) := by decide +kernel
theorem dJ9_max_7cf53_10 : decode cJ9_max_7cf53 10 = .ok (.ireturn, 1) := by decide +kernel
theorem dJ9_min_7cf53_0 : decode cJ9_min_7cf53 0 = .ok (.iload_n 0, 1) := by decide +kernel
theorem dJ9_min_7cf53_1 : decode cJ9_min_7cf53 1 = .ok (.iload_n 1, 1) := by decide +kernel
theorem dJ9_min_7cf53_2 : decode cJ9_min_7cf53 2 = .ok (.if_icmp .gt 7, 3) := by decide +kernel
theorem dJ9_min_7cf53_5 : decode cJ9_min_7cf53 5 = .ok (.iload_n 0, 1) := by decide +kernel
theorem dJ9_min_7cf53_6 : decode cJ9_min_7cf53 6 = .ok (.goto 4, 3) := by decide +kernel
theorem dJ9_min_7cf53_9 : decode cJ9_min_7cf53 9 = .ok (.iload_n 1, 1) := by decide +kernel
theorem dJ9_min_7cf53_10 : decode cJ9_min_7cf53 10 = .ok (.ireturn, 1) := by decide +kernel
end
section
/-! the abstract heap: ints by object, field, place; longs likewise. Objects: 0 1 2 towns (street, ahead, kept), 3 tape, 4..7 sheets, 8 RumourBeds, 9 RumourBedsModel -/
abbrev rb_T : Type := Nat → Nat → Int32
abbrev rb_N : Type := Nat → Nat → Int64
abbrev rb_H : Type := (Nat → rb_T) × (Nat → rb_N)
/-- the world's fixed part: kit's class data, array classes, addresses, addresses of the string constants and of their bytes, the address of ABOVE -/
abbrev rb_G : Type := va_G × (Nat → ClassId) × (Nat → Nat → Nat) × (Nat → Nat) × (Nat → Nat) × Nat
def rb_ad (G : rb_G) (o j : Nat) : Nat := G.2.2.1 o j
def rb_tys (G : rb_G) : List (ClassId × FieldType) := [(G.2.1 0, .int), (G.2.1 1, .long), (G.2.1 2, .object "RumourBeds$Sheet")]
def rb_fk (o : Nat) : List Nat := if o < 3 then [1,1,1,1,0,1,1,1,1,1,0,0] else if o = 3 then [1,0,0,0,0,0] else if o < 8 then [0,0,1] else if o = 8 then [2,3,4,0,5,1,1] else [1,1,1,1,1,0,1,0,0,0,0,0,1,1,1,1]
def rb_ci (o : Nat) : Nat := if o < 3 then 2 else if o = 3 then 1 else if o < 8 then 0 else if o = 8 then 3 else 4
def rb_fv0 (G : rb_G) (h : rb_H) (o j : Nat) : Nat → Value
  | 0 => .int (h.1 o j 0)
  | 1 => .ref (rb_ad G o (j + 1))
  | k + 2 => .ref (rb_ad G k 0)
def rb_fv (G : rb_G) (h : rb_H) (o j : Nat) : Value := rb_fv0 G h o j ((rb_fk o).getD j 0)
def rb_fl (G : rb_G) (h : rb_H) (o : Nat) : List Value := (List.range (rb_fk o).length).map (rb_fv G h o)
/-- an array field: sort (0 int, 1 long, 2 sheets), length -/
def rb_ak (o j : Nat) : Nat × Nat := if o < 3 then (0, if j < 4 then 8 else 10) else if o = 3 then (0, 120) else if o < 8 then (1, 40) else if o = 8 then (if j = 5 then (2, 4) else (0, 7)) else if j < 4 then (0, 77) else if j = 4 then (0, 7) else if j = 6 then (0, 120) else if j < 14 then (0, 4) else if j = 14 then (1, 160) else (1, 40)
def rb_ac (G : rb_G) (h : rb_H) (o j : Nat) : Nat → va_E
  | 0 => .inl (G.2.1 0, (rb_ak o j).2, .inl (h.1 o j))
  | 1 => .inl (G.2.1 1, (rb_ak o j).2, .inr (.inl (h.2 o j)))
  | _ => .inl (G.2.1 2, (rb_ak o j).2, .inr (.inr (.inr (.inr (fun i => some (rb_ad G (4 + i) 0))))))
def rb_cl (G : rb_G) (h : rb_H) (o : Nat) : Nat → va_E
  | 0 => .inr (rb_ci o, rb_fl G h o)
  | j + 1 => rb_ac G h o j (rb_ak o j).1
def rb_ids : List (Nat × Nat) := [(0,0),(0,1),(0,2),(0,3),(0,4),(0,6),(0,7),(0,8),(0,9),(0,10),(1,0),(1,1),(1,2),(1,3),(1,4),(1,6),(1,7),(1,8),(1,9),(1,10),(2,0),(2,1),(2,2),(2,3),(2,4),(2,6),(2,7),(2,8),(2,9),(2,10),(3,0),(3,1),(4,0),(4,3),(5,0),(5,3),(6,0),(6,3),(7,0),(7,3),(8,0),(8,6),(8,7),(9,0),(9,1),(9,2),(9,3),(9,4),(9,5),(9,7),(9,13),(9,14),(9,15),(9,16)]
def rb_cw (G : rb_G) (h : rb_H) : va_W := rb_ids.map (fun q => (rb_ad G q.1 q.2, rb_cl G h q.1 q.2))
def rb_AD (G : rb_G) : Nat → Prop := fun a => ∃ q ∈ rb_ids, a = rb_ad G q.1 q.2
theorem rb_nd : rb_ids.Nodup := by decide
theorem rb_at {G : rb_G} {h : rb_H} {o j : Nat} (hq : (o, j) ∈ rb_ids) : ∃ k : Nat, rb_ids[k]? = some (o, j) ∧ (rb_cw G h)[k]? = some (rb_ad G o j, rb_cl G h o j) := by
  obtain ⟨k, hk⟩ := List.getElem?_of_mem hq
  exact ⟨k, hk, by simp [rb_cw, hk]⟩
theorem rb_set {G : rb_G} {h h' : rb_H} {k o j : Nat} {e : va_E} (hk : rb_ids[k]? = some (o, j)) (he : rb_cl G h' o j = e) (ho : ∀ o' j', (o', j') ∈ rb_ids → (o', j') ≠ (o, j) → rb_cl G h' o' j' = rb_cl G h o' j') : (rb_cw G h).set k (rb_ad G o j, e) = rb_cw G h' := by
  apply List.ext_getElem?
  intro i
  have hkl : k < rb_ids.length := (List.getElem?_eq_some_iff.mp hk).1
  by_cases hik : i = k
  · subst hik
    rw [List.getElem?_set_self (by simpa [rb_cw] using hkl)]
    simp [rb_cw, hk, he]
  · rw [List.getElem?_set_ne (Ne.symm hik)]
    cases hi : rb_ids[i]? with
    | none => simp [rb_cw, hi]
    | some q =>
      obtain ⟨o', j'⟩ := q
      have hne : (o', j') ≠ (o, j) := fun e => hik (by
        have hl : i < rb_ids.length := (List.getElem?_eq_some_iff.mp hi).1
        exact (List.getElem?_inj hl rb_nd).mp (by rw [hi, hk, e]))
      simp [rb_cw, hi, ho o' j' (List.mem_of_getElem? hi) hne]
/-- the tables' words that go along with every call -/
def rb_gd : Cond → Bool
  | .fieldLinkNest .. => true
  | .methodLinkNest .. => true
  | w => w.onTables && w.keeps
def rb_tb (U : State) : Prop := ∀ w ∈ lw_tbl, rb_gd w = true → w.before #[] U = true
theorem rb_gd_on {w : Cond} (h : rb_gd w = true) : w.onTables = true := by
  cases w <;> first | rfl | (simp [rb_gd, Cond.onTables] at h)
theorem rb_tb.use {U : State} (h : rb_tb U) {w : Cond} (hw : w ∈ lw_tbl) (hg : rb_gd w = true) (A : Array Value) : w.before A U = true := va_Nw.use (rb_gd_on hg) (h w hw hg)
theorem rb_tb.same {u U : State} (hv : u.vm = U.vm) (h : rb_tb u) : rb_tb U := fun w hw hg => va_Nw.same (rb_gd_on hg) hv (h w hw hg)
theorem rb_gd_warm {w : Cond} {s U : State} (hg : rb_gd w = true) (hW : s.WarmedH U.vm) (h : w.before #[] s = true) : w.before #[] U = true := by
  by_cases hk : (w.onTables && w.keeps) = true
  · exact word_at hW (Or.inl hk) h
  · cases w <;> first | exact va_Nw.warmF hW h | exact va_Nw.warmM hW h | exact absurd hg hk
theorem rb_tb.warm {s U : State} (hW : s.WarmedH U.vm) (h : rb_tb s) : rb_tb U := fun w hw hg => rb_gd_warm hg hW (h w hw hg)
/-- string constants: whose pool, place, text, bytes -/
def rb_txt : List (String × Nat × String × List Int32) := [("RumourBeds$Kinds", 29, "rumour", [114, 117, 109, 111, 117, 114]), ("RumourBeds$Kinds", 19, "big", [98, 105, 103]), ("RumourBeds$Kinds", 21, "dull", [100, 117, 108, 108]), ("RumourBeds$Kinds", 23, "shy", [115, 104, 121]), ("RumourBeds$Kinds", 25, "royal", [114, 111, 121, 97, 108]), ("RumourBeds$Kinds", 27, "wells", [119, 101, 108, 108, 115]), ("RumourBeds$Tape", 38, "house", [104, 111, 117, 115, 101]), ("RumourBeds$Tape", 47, "true", [116, 114, 117, 101]), ("RumourBeds$Tape", 66, "beds", [98, 101, 100, 115]), ("RumourBeds$Tape", 76, "larder", [108, 97, 114, 100, 101, 114]), ("RumourBeds$Tape", 81, "leans", [108, 101, 97, 110, 115]), ("RumourBeds$Tape", 92, "of", [111, 102]), ("RumourBeds$Tape", 98, "bulk", [98, 117, 108, 107]), ("RumourBeds$Tape", 110, "in", [105, 110])]
def rb_len : List Nat := rb_txt.map (fun q => q.2.2.2.length)
def rb_byt : List (List Int32) := rb_txt.map (fun q => q.2.2.2)
def rb_tx (i : Nat) : String × Nat × String × List Int32 := rb_txt.getD i ("", 0, "", [])
def rb_abv : List Int32 := [-1, 0, 0, 0, 1, 2]
/-- what stays as it is -/
def rb_sw (G : rb_G) (U : State) (H : Heap) : Prop :=
  rb_tb U ∧ va_K G.1 vwCl (rb_tys G) U ∧ (∀ q ∈ rb_ids, ∀ q' ∈ rb_ids, rb_ad G q.1 q.2 = rb_ad G q'.1 q'.2 → q = q') ∧
  vk_S 14 rb_len rb_byt G.2.2.2.1 G.2.2.2.2.1 (rb_AD G) U H ∧ (∀ i, i < 14 → vk_R (rb_tx i).1 (rb_tx i).2.1 (rb_tx i).2.2.1 (G.2.2.2.1 i) U) ∧
  va_Z "RumourBeds$Kinds" "ABOVE" "[I" (.ref G.2.2.2.2.2) (rb_AD G) U H ∧ va_T .int G.2.2.2.2.2 6 (fun j => .int (rb_abv.getD j 0)) (rb_AD G) U H ∧
  va_Z "java/lang/String" "COMPACT_STRINGS" "Z" (.int 1) (rb_AD G) U H
theorem rb_sw.same {G : rb_G} {u U : State} {H : Heap} (hv : u.vm = U.vm) (h : rb_sw G u H) : rb_sw G U H := by
  obtain ⟨h1, h2, h3, h4, h5, h6, h7, h8⟩ := h
  have ha : u.vm.Alike U.vm := by rw [hv]; exact Vm.Alike.refl _
  exact ⟨h1.same hv, va_K.moved ha h2, h3, h4.moved ha, fun i hi => vk_R.same hv.symm (h5 i hi), h6.moved ha, h7.moved ha, h8.moved ha⟩
theorem rb_sw.warm {G : rb_G} {s U : State} {H : Heap} (hW : s.WarmedH U.vm) (h : rb_sw G s H) : rb_sw G U H := by
  obtain ⟨h1, h2, h3, h4, h5, h6, h7, h8⟩ := h
  have ha := hW.alike
  exact ⟨h1.warm hW, va_K.moved ha h2, h3, h4.moved ha, fun i hi => vk_R.warm hW (h5 i hi), h6.moved ha, h7.moved ha, h8.moved ha⟩
theorem rb_sw.kept {G : rb_G} {U : State} {H H1 : Heap} (h : rb_sw G U H) (hq : ∀ a : Nat, a < H.size → ¬ rb_AD G a → H1[a]? = H[a]?) : rb_sw G U H1 := by
  obtain ⟨h1, h2, h3, h4, h5, h6, h7, h8⟩ := h
  exact ⟨h1, h2, h3, h4.kept hq, h5, h6.kept hq, h7.kept hq, h8.kept hq⟩
theorem rb_D {G : rb_G} {A : Nat → Prop} {h : rb_H} (hi : ∀ q ∈ rb_ids, ∀ q' ∈ rb_ids, rb_ad G q.1 q.2 = rb_ad G q'.1 q'.2 → q = q') (hA : ∀ a, rb_AD G a → A a) : va_D A (rb_cw G h) := by
  have key : ∀ (k : Nat) (x : Nat × va_E), (rb_cw G h)[k]? = some x → ∃ q, rb_ids[k]? = some q ∧ x.1 = rb_ad G q.1 q.2 := by
    intro k x hk
    simp only [rb_cw, List.getElem?_map, Option.map_eq_some_iff] at hk
    obtain ⟨q, h1, h2⟩ := hk
    exact ⟨q, h1, by rw [← h2]⟩
  refine ⟨fun i j x y hx hy hxy => ?_, fun k x hx => ?_⟩
  · obtain ⟨q, h1, h2⟩ := key i x hx
    obtain ⟨q', h3, h4⟩ := key j y hy
    have e := hi q (List.mem_of_getElem? h1) q' (List.mem_of_getElem? h3) (by rw [← h2, ← h4, hxy])
    subst e
    exact (List.getElem?_inj (List.getElem?_eq_some_iff.mp h1).1 rb_nd).mp (by rw [h1, h3])
  · obtain ⟨q, h1, h2⟩ := key k x hx
    exact hA _ ⟨q, List.mem_of_getElem? h1, h2⟩
/-! locals as a list of values (null: not known) -/
def rb_pr : Nat → List Value → List (Nat × Value)
  | _, [] => []
  | i, .null :: l => rb_pr (i + 1) l
  | i, v :: l => (i, v) :: rb_pr (i + 1) l
theorem rb_pr_mem : ∀ (L : List Value) (n : Nat) (q : Nat × Value), q ∈ rb_pr n L ↔ ∃ i, q.1 = n + i ∧ L[i]? = some q.2 ∧ q.2 ≠ .null := by
  intro L
  induction L with
  | nil => intro n q; simp [rb_pr]
  | cons v l ih =>
    intro n q
    have step : (∃ i, q.1 = n + i ∧ (v :: l)[i]? = some q.2 ∧ q.2 ≠ .null) ↔ (q.1 = n ∧ v = q.2 ∧ q.2 ≠ .null) ∨ ∃ i, q.1 = n + 1 + i ∧ l[i]? = some q.2 ∧ q.2 ≠ .null := by
      constructor
      · rintro ⟨i, h1, h2, h3⟩
        cases i with
        | zero => exact Or.inl ⟨by omega, by simpa using h2, h3⟩
        | succ i => exact Or.inr ⟨i, by omega, by simpa using h2, h3⟩
      · rintro (⟨h1, h2, h3⟩ | ⟨i, h1, h2, h3⟩)
        · exact ⟨0, by omega, by simpa using h2, h3⟩
        · exact ⟨i + 1, by omega, by simpa using h2, h3⟩
    rw [step]
    cases v with
    | null => simp only [rb_pr, ih]; constructor <;> intro h; exact Or.inr h; rcases h with ⟨_, h2, h3⟩ | h; exact absurd h2.symm h3; exact h
    | _ =>
      simp only [rb_pr, List.mem_cons, ih]
      constructor
      · rintro (rfl | h)
        · exact Or.inl ⟨rfl, rfl, by simp⟩
        · exact Or.inr h
      · rintro (⟨h1, h2, h3⟩ | h)
        · exact Or.inl (by obtain ⟨a, b⟩ := q; simp only at h1 h2; subst h1; subst h2; rfl)
        · exact Or.inr h
def rb_HL (ls : Array Slot) (nL : Nat) (L : List Value) : Prop := lv_has ls nL (rb_pr 0 L)
theorem rb_HL.at {ls : Array Slot} {nL : Nat} {L : List Value} (h : rb_HL ls nL L) {i : Nat} {v : Value} (hi : L[i]? = some v) (hn : v ≠ .null) : ls[i]? = some (.val v) := h.2.2 (i, v) ((rb_pr_mem L 0 (i, v)).mpr ⟨i, by simp, hi, hn⟩)
def rb_ok1 (L : List Value) : Nat → Bool
  | 0 => true
  | j + 1 => match L[j]? with
    | some v => !(v.category == 2)
    | none => true
theorem rb_HL.set1 {ls : Array Slot} {nL : Nat} {L : List Value} {i : Nat} {v : Value} (hv : rb_ok1 L i = true) (h : lv_has ls nL ((i, v) :: (rb_pr 0 L).filter (fun q => !(q.1 == i) && !(q.1 + 1 == i && q.2.category == 2)))) : rb_HL ls nL (L.set i v) := by
  refine ⟨h.1, h.2.1, fun q hq => h.2.2 q ?_⟩
  obtain ⟨j, h1, h2, h3⟩ := (rb_pr_mem _ _ _).mp hq
  rw [Nat.zero_add] at h1
  by_cases hj : j = i
  · subst hj
    have hl : j < (L.set j v).length := (List.getElem?_eq_some_iff.mp h2).1
    rw [List.getElem?_set_self (by simpa using hl)] at h2
    have : q = (j, v) := by obtain ⟨a, b⟩ := q; simp only at h1 h2; rw [h1, ← Option.some.inj h2]
    rw [this]; exact List.mem_cons_self
  · rw [List.getElem?_set_ne (Ne.symm hj)] at h2
    refine List.mem_cons_of_mem _ (List.mem_filter.mpr ⟨(rb_pr_mem _ _ _).mpr ⟨j, by omega, h2, h3⟩, ?_⟩)
    have e1 : (q.1 == i) = false := by simp; omega
    rw [e1]
    cases hc : (q.1 + 1 == i) with
    | false => simp
    | true =>
      have e2 : i = j + 1 := by simp at hc; omega
      subst e2
      simp only [rb_ok1, h2] at hv
      simp at hv ⊢
      exact hv
theorem rb_HL.set2 {ls : Array Slot} {nL : Nat} {L : List Value} {i : Nat} {v : Value} (hv : rb_ok1 L i = true) (h : lv_has ls nL ((i, v) :: (rb_pr 0 L).filter (fun q => !(q.1 == i) && (!(q.1 == i + 1) && !(q.1 + 1 == i && q.2.category == 2))))) : rb_HL ls nL ((L.set i v).set (i + 1) .null) := by
  refine ⟨h.1, h.2.1, fun q hq => h.2.2 q ?_⟩
  obtain ⟨j, h1, h2, h3⟩ := (rb_pr_mem _ _ _).mp hq
  rw [Nat.zero_add] at h1
  by_cases hj1 : j = i + 1
  · subst hj1
    have hl : i + 1 < ((L.set i v).set (i + 1) .null).length := (List.getElem?_eq_some_iff.mp h2).1
    rw [List.getElem?_set_self (by simpa using hl)] at h2
    exact absurd (Option.some.inj h2).symm h3
  rw [List.getElem?_set_ne (Ne.symm hj1)] at h2
  by_cases hj : j = i
  · subst hj
    have hl : j < (L.set j v).length := (List.getElem?_eq_some_iff.mp h2).1
    rw [List.getElem?_set_self (by simpa using hl)] at h2
    have : q = (j, v) := by obtain ⟨a, b⟩ := q; simp only at h1 h2; rw [h1, ← Option.some.inj h2]
    rw [this]; exact List.mem_cons_self
  · rw [List.getElem?_set_ne (Ne.symm hj)] at h2
    refine List.mem_cons_of_mem _ (List.mem_filter.mpr ⟨(rb_pr_mem _ _ _).mpr ⟨j, by omega, h2, h3⟩, ?_⟩)
    have e1 : (q.1 == i) = false := by simp; omega
    have e3 : (q.1 == i + 1) = false := by simp; omega
    rw [e1, e3]
    cases hc : (q.1 + 1 == i) with
    | false => simp
    | true =>
      have e2 : i = j + 1 := by simp at hc; omega
      subst e2
      simp only [rb_ok1, h2] at hv
      simp at hv ⊢
      exact hv
/-! the machine's side of a walk -/
abbrev rb_Z : Type := Program × Launch × Env × Room × State × MethodId × Array Value × List Frame × Method × Code × (Nat → Prop) × Nat × Nat × (State → Prop)
/-- WP: from every machine that holds the abstract heap h and the locals L, at pc with stack S, the machine comes to its end -/
def rb_WP (Z : rb_Z) (G : rb_G) (nL pc : Nat) (L S : List Value) (h : rb_H) : Prop := match Z with
  | (p, l, e, R, s, m, args, below, meth, c, A, cells, slots, Q) => ∀ (H : Heap) (locs : List Loc) (ls : Array Slot), va_P G.1 vwCl (rb_cw G h) H → va_S A s.heap H locs → rb_HL ls nL L → W p l e R s m args below meth c H locs cells slots Q (F0 m pc ls S)
def rb_CX (Z : rb_Z) (G : rb_G) (cc : ByteArray) (nL : Nat) (own : String) (k : Nat) : Prop := match Z with
  | (p, l, e, R, s, m, args, below, meth, c, A, cells, slots, Q) => p.tables.exec = Jvm.exec ∧ c.code = cc ∧ c.maxLocals = nL ∧ s.vm.findClass own = some m.cls ∧ rb_sw G s s.heap ∧ (∀ a, rb_AD G a → A a) ∧ (∀ a, a < s.heap.size → A a → rb_AD G a) ∧ k ≤ R.frames ∧ 44 * k ≤ R.locals ∧ cells ≤ R.cells ∧ slots ≤ R.slots
def rb_rm (k : Nat) : Room := { frames := k, cells := 0, slots := 0, locals := 44 * k }
def rb_W (G : rb_G) (h : rb_H) (U : State) : Prop := va_P G.1 vwCl (rb_cw G h) U.heap ∧ rb_sw G U U.heap
def rb_post (G : rb_G) (post : Option Value → rb_H → Prop) : Array Value → State → Outcome → State → Prop := fun _ st oc t => (∃ r h', oc = .returned r ∧ post r h' ∧ va_P G.1 vwCl (rb_cw G h') t.heap) ∧ va_F (rb_AD G) st t
/-- a contract: from the abstract heap h, with these arguments, y returns with 'post answer heap' -/
def rb_M (G : rb_G) (k : Nat) (y : MethodName) (cc : ByteArray) (nL : Nat) (rt : Option FieldType) (av : List Value) (h : rb_H) (post : Option Value → rb_H → Prop) : Prop :=
  ∀ l : Launch, Met l y [Cond.code y cc nL rt] (rb_rm k) (va_Pc av (rb_W G h)) (rb_post G post) 0 0 (rb_AD G)
def rb_RT (Z : rb_Z) (G : rb_G) (rt : Option FieldType) (post : Option Value → rb_H → Prop) : Prop := match Z with
  | (p, l, e, R, s, m, args, below, meth, c, A, cells, slots, Q) => Q = MQ below (rb_post G post) args s cells slots (rb_AD G) ∧ meth.sig.returnType = rt ∧ meth.locks = false ∧ A = rb_AD G
theorem rb_meth {G : rb_G} {k : Nat} {y : MethodName} {cc : ByteArray} {nL : Nat} {rt : Option FieldType} {av L : List Value} {h : rb_H} {post : Option Value → rb_H → Prop} (hy : plainName y.cls = true) (hn : (lg_sl av).length ≤ nL) (hL : rb_pr 0 L = lv_args 0 av)
    (body : ∀ Z, rb_CX Z G cc nL y.cls k → rb_RT Z G rt post → rb_WP Z G nL 0 L [] h) : rb_M G k y cc nL rt av h post := by
  intro l
  refine Met.ofW (cc := cc) (maxL := nL) (ret := rt) hy rfl ?_
  intro p e s m args below meth c s₁ B hml hv
  obtain ⟨rfl, hP, hsw⟩ := hv
  have hown : s.vm.findClass y.cls = some m.cls := findClass_of_methodNamed B.named
  have hl := lv_entry av (n := nL) hn
  rw [lg_entry_eq]
  have h1 := body (p, l, e, (headSpec [Cond.code y cc nL rt] (rb_rm k)).room, s, m, av.toArray, below, meth, c, rb_AD G, 0, 0, MQ below (rb_post G post) av.toArray s 0 0 (rb_AD G)) ⟨B.exec, B.bytes, hml, hown, hsw, fun _ h => h, fun _ _ h => h, Nat.le_refl _, Nat.le_refl _, Nat.le_refl _, Nat.le_refl _⟩ ⟨rfl, B.returns, B.notSynchronized, rfl⟩
  exact h1 s.heap [] _ hP va_S.rf (show lv_has _ _ _ by rw [hL]; exact hl)
theorem rb_blind {G : rb_G} {av : List Value} {h : rb_H} : FrameBlind (va_Pc av (rb_W G h)) := fun a U g mk q => ⟨q.1, q.2.1, rb_sw.same (u := U) (U := U.calling g mk a) (H := U.heap) rfl q.2.2⟩

theorem rb_iconst {Z : rb_Z} {G : rb_G} {cc : ByteArray} {nL : Nat} {own : String} {k pc : Nat} {L S : List Value} {h : rb_H} (X : rb_CX Z G cc nL own k) {n : Int} {v : Int32} (d : decode cc pc = .ok (.iconst n, 1)) (hv : Int32.ofInt n = v) (kk : rb_WP Z G nL (pc + 1) L (.int v :: S) h) : rb_WP Z G nL pc L (S) h := by
  obtain ⟨p, l, e, R, s, m, args, below, meth, c, A, cells, slots, Q⟩ := Z
  obtain ⟨hx, hb, hml, hown, hsw, hA, hA2, hf, hlo, hce, hso⟩ := X
  intro H locs ls hP hS hl
  exact lv_iconst hx hb d hv (kk H locs ls hP hS hl)
theorem rb_bipush {Z : rb_Z} {G : rb_G} {cc : ByteArray} {nL : Nat} {own : String} {k pc : Nat} {L S : List Value} {h : rb_H} (X : rb_CX Z G cc nL own k) {n : Int} {v : Int32} (d : decode cc pc = .ok (.bipush n, 2)) (hv : (Int8.ofInt n).toInt32 = v) (kk : rb_WP Z G nL (pc + 2) L (.int v :: S) h) : rb_WP Z G nL pc L (S) h := by
  obtain ⟨p, l, e, R, s, m, args, below, meth, c, A, cells, slots, Q⟩ := Z
  obtain ⟨hx, hb, hml, hown, hsw, hA, hA2, hf, hlo, hce, hso⟩ := X
  intro H locs ls hP hS hl
  exact lv_bipush hx hb d hv (kk H locs ls hP hS hl)
theorem rb_sipush {Z : rb_Z} {G : rb_G} {cc : ByteArray} {nL : Nat} {own : String} {k pc : Nat} {L S : List Value} {h : rb_H} (X : rb_CX Z G cc nL own k) {n : Int} {v : Int32} (d : decode cc pc = .ok (.sipush n, 3)) (hv : (Int16.ofInt n).toInt32 = v) (kk : rb_WP Z G nL (pc + 3) L (.int v :: S) h) : rb_WP Z G nL pc L (S) h := by
  obtain ⟨p, l, e, R, s, m, args, below, meth, c, A, cells, slots, Q⟩ := Z
  obtain ⟨hx, hb, hml, hown, hsw, hA, hA2, hf, hlo, hce, hso⟩ := X
  intro H locs ls hP hS hl
  exact lv_sipush hx hb d hv (kk H locs ls hP hS hl)
theorem rb_lconst {Z : rb_Z} {G : rb_G} {cc : ByteArray} {nL : Nat} {own : String} {k pc : Nat} {L S : List Value} {h : rb_H} (X : rb_CX Z G cc nL own k) {n : Fin 2} {v : Int64} (d : decode cc pc = .ok (.lconst n, 1)) (hv : Int64.ofNat (n : Nat) = v) (kk : rb_WP Z G nL (pc + 1) L (.long v :: S) h) : rb_WP Z G nL pc L (S) h := by
  obtain ⟨p, l, e, R, s, m, args, below, meth, c, A, cells, slots, Q⟩ := Z
  obtain ⟨hx, hb, hml, hown, hsw, hA, hA2, hf, hlo, hce, hso⟩ := X
  intro H locs ls hP hS hl
  exact lv_lconst hx hb d hv (kk H locs ls hP hS hl)
theorem rb_ldc {Z : rb_Z} {G : rb_G} {cc : ByteArray} {nL : Nat} {own : String} {k pc : Nat} {L S : List Value} {h : rb_H} (X : rb_CX Z G cc nL own k) {i : Nat} {v : Int32} (d : decode cc pc = .ok (.ldc i, 2)) (w : Cond.constant own i v ∈ lw_tbl) (kk : rb_WP Z G nL (pc + 2) L (.int v :: S) h) : rb_WP Z G nL pc L (S) h := by
  obtain ⟨p, l, e, R, s, m, args, below, meth, c, A, cells, slots, Q⟩ := Z
  obtain ⟨hx, hb, hml, hown, hsw, hA, hA2, hf, hlo, hce, hso⟩ := X
  intro H locs ls hP hS hl
  exact lv_ldc hx hb hown (hsw.1.use w rfl _) d (kk H locs ls hP hS hl)
theorem rb_ldcw {Z : rb_Z} {G : rb_G} {cc : ByteArray} {nL : Nat} {own : String} {k pc : Nat} {L S : List Value} {h : rb_H} (X : rb_CX Z G cc nL own k) {i : Nat} {v : Int32} (d : decode cc pc = .ok (.ldc_w i, 3)) (w : Cond.constant own i v ∈ lw_tbl) (kk : rb_WP Z G nL (pc + 3) L (.int v :: S) h) : rb_WP Z G nL pc L (S) h := by
  obtain ⟨p, l, e, R, s, m, args, below, meth, c, A, cells, slots, Q⟩ := Z
  obtain ⟨hx, hb, hml, hown, hsw, hA, hA2, hf, hlo, hce, hso⟩ := X
  intro H locs ls hP hS hl
  exact lv_ldcw hx hb hown (hsw.1.use w rfl _) d (kk H locs ls hP hS hl)
theorem rb_ldc2 {Z : rb_Z} {G : rb_G} {cc : ByteArray} {nL : Nat} {own : String} {k pc : Nat} {L S : List Value} {h : rb_H} (X : rb_CX Z G cc nL own k) {i : Nat} {v : Int64} (d : decode cc pc = .ok (.ldc2_w i, 3)) (w : Cond.constantLong own i v ∈ lw_tbl) (kk : rb_WP Z G nL (pc + 3) L (.long v :: S) h) : rb_WP Z G nL pc L (S) h := by
  obtain ⟨p, l, e, R, s, m, args, below, meth, c, A, cells, slots, Q⟩ := Z
  obtain ⟨hx, hb, hml, hown, hsw, hA, hA2, hf, hlo, hce, hso⟩ := X
  intro H locs ls hP hS hl
  exact lv_ldc2 hx hb hown (hsw.1.use w rfl _) d (kk H locs ls hP hS hl)
theorem rb_ldcS {Z : rb_Z} {G : rb_G} {cc : ByteArray} {nL : Nat} {own : String} {k pc : Nat} {L S : List Value} {h : rb_H} (X : rb_CX Z G cc nL own k) (i : Nat) {ix : Nat} (hi : i < 14) (hi2 : (rb_tx i).1 = own) (hi3 : (rb_tx i).2.1 = ix) (d : decode cc pc = .ok (.ldc ix, 2)) (kk : rb_WP Z G nL (pc + 2) L (.ref (G.2.2.2.1 i) :: S) h) : rb_WP Z G nL pc L (S) h := by
  obtain ⟨p, l, e, R, s, m, args, below, meth, c, A, cells, slots, Q⟩ := Z
  obtain ⟨hx, hb, hml, hown, hsw, hA, hA2, hf, hlo, hce, hso⟩ := X
  intro H locs ls hP hS hl
  exact va_ldcS (tx := (rb_tx i).2.2.1) hx hb hown (by rw [← hi2, ← hi3]; exact hsw.2.2.2.2.1 i hi) d (kk H locs ls hP hS hl)
theorem rb_iload_n {Z : rb_Z} {G : rb_G} {cc : ByteArray} {nL : Nat} {own : String} {k pc : Nat} {L S : List Value} {h : rb_H} (X : rb_CX Z G cc nL own k) {q : Fin 4} {i : Nat} {x : Int32} (d : decode cc pc = .ok (.iload_n q, 1)) (hi : (q : Nat) = i) (hL : L[i]? = some (.int x)) (kk : rb_WP Z G nL (pc + 1) L (.int x :: S) h) : rb_WP Z G nL pc L (S) h := by
  obtain ⟨p, l, e, R, s, m, args, below, meth, c, A, cells, slots, Q⟩ := Z
  obtain ⟨hx, hb, hml, hown, hsw, hA, hA2, hf, hlo, hce, hso⟩ := X
  intro H locs ls hP hS hl
  exact lv_iload_n hx hb d hi (rb_HL.at hl hL (by simp)) (kk H locs ls hP hS hl)
theorem rb_iload {Z : rb_Z} {G : rb_G} {cc : ByteArray} {nL : Nat} {own : String} {k pc : Nat} {L S : List Value} {h : rb_H} (X : rb_CX Z G cc nL own k) {i : Nat} {x : Int32} (d : decode cc pc = .ok (.iload i, 2)) (hL : L[i]? = some (.int x)) (kk : rb_WP Z G nL (pc + 2) L (.int x :: S) h) : rb_WP Z G nL pc L (S) h := by
  obtain ⟨p, l, e, R, s, m, args, below, meth, c, A, cells, slots, Q⟩ := Z
  obtain ⟨hx, hb, hml, hown, hsw, hA, hA2, hf, hlo, hce, hso⟩ := X
  intro H locs ls hP hS hl
  exact lv_iload hx hb d (rb_HL.at hl hL (by simp)) (kk H locs ls hP hS hl)
theorem rb_lload_n {Z : rb_Z} {G : rb_G} {cc : ByteArray} {nL : Nat} {own : String} {k pc : Nat} {L S : List Value} {h : rb_H} (X : rb_CX Z G cc nL own k) {q : Fin 4} {i : Nat} {x : Int64} (d : decode cc pc = .ok (.lload_n q, 1)) (hi : (q : Nat) = i) (hL : L[i]? = some (.long x)) (kk : rb_WP Z G nL (pc + 1) L (.long x :: S) h) : rb_WP Z G nL pc L (S) h := by
  obtain ⟨p, l, e, R, s, m, args, below, meth, c, A, cells, slots, Q⟩ := Z
  obtain ⟨hx, hb, hml, hown, hsw, hA, hA2, hf, hlo, hce, hso⟩ := X
  intro H locs ls hP hS hl
  exact lv_lload_n hx hb d hi (rb_HL.at hl hL (by simp)) (kk H locs ls hP hS hl)
theorem rb_lload {Z : rb_Z} {G : rb_G} {cc : ByteArray} {nL : Nat} {own : String} {k pc : Nat} {L S : List Value} {h : rb_H} (X : rb_CX Z G cc nL own k) {i : Nat} {x : Int64} (d : decode cc pc = .ok (.lload i, 2)) (hL : L[i]? = some (.long x)) (kk : rb_WP Z G nL (pc + 2) L (.long x :: S) h) : rb_WP Z G nL pc L (S) h := by
  obtain ⟨p, l, e, R, s, m, args, below, meth, c, A, cells, slots, Q⟩ := Z
  obtain ⟨hx, hb, hml, hown, hsw, hA, hA2, hf, hlo, hce, hso⟩ := X
  intro H locs ls hP hS hl
  exact lv_lload hx hb d (rb_HL.at hl hL (by simp)) (kk H locs ls hP hS hl)
theorem rb_aload_n {Z : rb_Z} {G : rb_G} {cc : ByteArray} {nL : Nat} {own : String} {k pc : Nat} {L S : List Value} {h : rb_H} (X : rb_CX Z G cc nL own k) {q : Fin 4} {i : Nat} {x : Nat} (d : decode cc pc = .ok (.aload_n q, 1)) (hi : (q : Nat) = i) (hL : L[i]? = some (.ref x)) (kk : rb_WP Z G nL (pc + 1) L (.ref x :: S) h) : rb_WP Z G nL pc L (S) h := by
  obtain ⟨p, l, e, R, s, m, args, below, meth, c, A, cells, slots, Q⟩ := Z
  obtain ⟨hx, hb, hml, hown, hsw, hA, hA2, hf, hlo, hce, hso⟩ := X
  intro H locs ls hP hS hl
  exact lv_aload_n hx hb d hi (rb_HL.at hl hL (by simp)) (kk H locs ls hP hS hl)
theorem rb_aload {Z : rb_Z} {G : rb_G} {cc : ByteArray} {nL : Nat} {own : String} {k pc : Nat} {L S : List Value} {h : rb_H} (X : rb_CX Z G cc nL own k) {i : Nat} {x : Nat} (d : decode cc pc = .ok (.aload i, 2)) (hL : L[i]? = some (.ref x)) (kk : rb_WP Z G nL (pc + 2) L (.ref x :: S) h) : rb_WP Z G nL pc L (S) h := by
  obtain ⟨p, l, e, R, s, m, args, below, meth, c, A, cells, slots, Q⟩ := Z
  obtain ⟨hx, hb, hml, hown, hsw, hA, hA2, hf, hlo, hce, hso⟩ := X
  intro H locs ls hP hS hl
  exact lv_aload hx hb d (rb_HL.at hl hL (by simp)) (kk H locs ls hP hS hl)
theorem rb_istore_n {Z : rb_Z} {G : rb_G} {cc : ByteArray} {nL : Nat} {own : String} {k pc : Nat} {L S : List Value} {h : rb_H} (X : rb_CX Z G cc nL own k) {q : Fin 4} {i : Nat} {x : Int32} {L2 : List Value} (d : decode cc pc = .ok (.istore_n q, 1)) (hi : (q : Nat) = i) (hn : i < nL) (ho : rb_ok1 L i = true) (h2 : L.set i (.int x) = L2) (kk : rb_WP Z G nL (pc + 1) L2 (S) h) : rb_WP Z G nL pc L (.int x :: S) h := by
  obtain ⟨p, l, e, R, s, m, args, below, meth, c, A, cells, slots, Q⟩ := Z
  obtain ⟨hx, hb, hml, hown, hsw, hA, hA2, hf, hlo, hce, hso⟩ := X
  intro H locs ls hP hS hl
  exact lv_istore_n hx hb d hi hl hn rfl (fun ls1 hl1 => kk H locs ls1 hP hS (h2 ▸ rb_HL.set1 ho hl1))
theorem rb_istore {Z : rb_Z} {G : rb_G} {cc : ByteArray} {nL : Nat} {own : String} {k pc : Nat} {L S : List Value} {h : rb_H} (X : rb_CX Z G cc nL own k) {i : Nat} {x : Int32} {L2 : List Value} (d : decode cc pc = .ok (.istore i, 2)) (hn : i < nL) (ho : rb_ok1 L i = true) (h2 : L.set i (.int x) = L2) (kk : rb_WP Z G nL (pc + 2) L2 (S) h) : rb_WP Z G nL pc L (.int x :: S) h := by
  obtain ⟨p, l, e, R, s, m, args, below, meth, c, A, cells, slots, Q⟩ := Z
  obtain ⟨hx, hb, hml, hown, hsw, hA, hA2, hf, hlo, hce, hso⟩ := X
  intro H locs ls hP hS hl
  exact lv_istore hx hb d hl hn rfl (fun ls1 hl1 => kk H locs ls1 hP hS (h2 ▸ rb_HL.set1 ho hl1))
theorem rb_astore_n {Z : rb_Z} {G : rb_G} {cc : ByteArray} {nL : Nat} {own : String} {k pc : Nat} {L S : List Value} {h : rb_H} (X : rb_CX Z G cc nL own k) {q : Fin 4} {i : Nat} {x : Nat} {L2 : List Value} (d : decode cc pc = .ok (.astore_n q, 1)) (hi : (q : Nat) = i) (hn : i < nL) (ho : rb_ok1 L i = true) (h2 : L.set i (.ref x) = L2) (kk : rb_WP Z G nL (pc + 1) L2 (S) h) : rb_WP Z G nL pc L (.ref x :: S) h := by
  obtain ⟨p, l, e, R, s, m, args, below, meth, c, A, cells, slots, Q⟩ := Z
  obtain ⟨hx, hb, hml, hown, hsw, hA, hA2, hf, hlo, hce, hso⟩ := X
  intro H locs ls hP hS hl
  exact lv_astore_n hx hb d hi hl hn rfl (fun ls1 hl1 => kk H locs ls1 hP hS (h2 ▸ rb_HL.set1 ho hl1))
theorem rb_astore {Z : rb_Z} {G : rb_G} {cc : ByteArray} {nL : Nat} {own : String} {k pc : Nat} {L S : List Value} {h : rb_H} (X : rb_CX Z G cc nL own k) {i : Nat} {x : Nat} {L2 : List Value} (d : decode cc pc = .ok (.astore i, 2)) (hn : i < nL) (ho : rb_ok1 L i = true) (h2 : L.set i (.ref x) = L2) (kk : rb_WP Z G nL (pc + 2) L2 (S) h) : rb_WP Z G nL pc L (.ref x :: S) h := by
  obtain ⟨p, l, e, R, s, m, args, below, meth, c, A, cells, slots, Q⟩ := Z
  obtain ⟨hx, hb, hml, hown, hsw, hA, hA2, hf, hlo, hce, hso⟩ := X
  intro H locs ls hP hS hl
  exact lv_astore hx hb d hl hn rfl (fun ls1 hl1 => kk H locs ls1 hP hS (h2 ▸ rb_HL.set1 ho hl1))
theorem rb_lstore_n {Z : rb_Z} {G : rb_G} {cc : ByteArray} {nL : Nat} {own : String} {k pc : Nat} {L S : List Value} {h : rb_H} (X : rb_CX Z G cc nL own k) {q : Fin 4} {i : Nat} {x : Int64} {L2 : List Value} (d : decode cc pc = .ok (.lstore_n q, 1)) (hi : (q : Nat) = i) (hn : i + 1 < nL) (ho : rb_ok1 L i = true) (h2 : (L.set i (.long x)).set (i + 1) .null = L2) (kk : rb_WP Z G nL (pc + 1) L2 (S) h) : rb_WP Z G nL pc L (.long x :: S) h := by
  obtain ⟨p, l, e, R, s, m, args, below, meth, c, A, cells, slots, Q⟩ := Z
  obtain ⟨hx, hb, hml, hown, hsw, hA, hA2, hf, hlo, hce, hso⟩ := X
  intro H locs ls hP hS hl
  exact lv_lstore_n hx hb d hi hl hn rfl (fun ls1 hl1 => kk H locs ls1 hP hS (h2 ▸ rb_HL.set2 ho hl1))
theorem rb_lstore {Z : rb_Z} {G : rb_G} {cc : ByteArray} {nL : Nat} {own : String} {k pc : Nat} {L S : List Value} {h : rb_H} (X : rb_CX Z G cc nL own k) {i : Nat} {x : Int64} {L2 : List Value} (d : decode cc pc = .ok (.lstore i, 2)) (hn : i + 1 < nL) (ho : rb_ok1 L i = true) (h2 : (L.set i (.long x)).set (i + 1) .null = L2) (kk : rb_WP Z G nL (pc + 2) L2 (S) h) : rb_WP Z G nL pc L (.long x :: S) h := by
  obtain ⟨p, l, e, R, s, m, args, below, meth, c, A, cells, slots, Q⟩ := Z
  obtain ⟨hx, hb, hml, hown, hsw, hA, hA2, hf, hlo, hce, hso⟩ := X
  intro H locs ls hP hS hl
  exact lv_lstore hx hb d hl hn rfl (fun ls1 hl1 => kk H locs ls1 hP hS (h2 ▸ rb_HL.set2 ho hl1))
theorem rb_iinc {Z : rb_Z} {G : rb_G} {cc : ByteArray} {nL : Nat} {own : String} {k pc : Nat} {L S : List Value} {h : rb_H} (X : rb_CX Z G cc nL own k) {i : Nat} {n : Int} {x v : Int32} {L2 : List Value} (d : decode cc pc = .ok (.iinc i n, 3)) (hL : L[i]? = some (.int x)) (hv : x + Int32.ofInt n = v) (hn : i < nL) (ho : rb_ok1 L i = true) (h2 : L.set i (.int v) = L2) (kk : rb_WP Z G nL (pc + 3) L2 (S) h) : rb_WP Z G nL pc L S h := by
  obtain ⟨p, l, e, R, s, m, args, below, meth, c, A, cells, slots, Q⟩ := Z
  obtain ⟨hx, hb, hml, hown, hsw, hA, hA2, hf, hlo, hce, hso⟩ := X
  intro H locs ls hP hS hl
  obtain ⟨q, hq⟩ := List.getElem?_of_mem ((rb_pr_mem L 0 (i, .int x)).mpr ⟨i, by simp, hL, by simp⟩)
  exact lv_iinc hx hb d hl hq hv hn rfl (fun ls1 hl1 => kk H locs ls1 hP hS (h2 ▸ rb_HL.set1 ho hl1))
theorem rb_iadd {Z : rb_Z} {G : rb_G} {cc : ByteArray} {nL : Nat} {own : String} {k pc : Nat} {L S : List Value} {h : rb_H} (X : rb_CX Z G cc nL own k) {x y : Int32} (d : decode cc pc = .ok (.iadd, 1)) (kk : rb_WP Z G nL (pc + 1) L (.int (x + y) :: S) h) : rb_WP Z G nL pc L (.int y :: .int x :: S) h := by
  obtain ⟨p, l, e, R, s, m, args, below, meth, c, A, cells, slots, Q⟩ := Z
  obtain ⟨hx, hb, hml, hown, hsw, hA, hA2, hf, hlo, hce, hso⟩ := X
  intro H locs ls hP hS hl
  exact lv_iadd hx hb d (kk H locs ls hP hS hl)
theorem rb_isub {Z : rb_Z} {G : rb_G} {cc : ByteArray} {nL : Nat} {own : String} {k pc : Nat} {L S : List Value} {h : rb_H} (X : rb_CX Z G cc nL own k) {x y : Int32} (d : decode cc pc = .ok (.isub, 1)) (kk : rb_WP Z G nL (pc + 1) L (.int (x - y) :: S) h) : rb_WP Z G nL pc L (.int y :: .int x :: S) h := by
  obtain ⟨p, l, e, R, s, m, args, below, meth, c, A, cells, slots, Q⟩ := Z
  obtain ⟨hx, hb, hml, hown, hsw, hA, hA2, hf, hlo, hce, hso⟩ := X
  intro H locs ls hP hS hl
  exact lv_isub hx hb d (kk H locs ls hP hS hl)
theorem rb_imul {Z : rb_Z} {G : rb_G} {cc : ByteArray} {nL : Nat} {own : String} {k pc : Nat} {L S : List Value} {h : rb_H} (X : rb_CX Z G cc nL own k) {x y : Int32} (d : decode cc pc = .ok (.imul, 1)) (kk : rb_WP Z G nL (pc + 1) L (.int (x * y) :: S) h) : rb_WP Z G nL pc L (.int y :: .int x :: S) h := by
  obtain ⟨p, l, e, R, s, m, args, below, meth, c, A, cells, slots, Q⟩ := Z
  obtain ⟨hx, hb, hml, hown, hsw, hA, hA2, hf, hlo, hce, hso⟩ := X
  intro H locs ls hP hS hl
  exact lv_imul hx hb d (kk H locs ls hP hS hl)
theorem rb_iand {Z : rb_Z} {G : rb_G} {cc : ByteArray} {nL : Nat} {own : String} {k pc : Nat} {L S : List Value} {h : rb_H} (X : rb_CX Z G cc nL own k) {x y : Int32} (d : decode cc pc = .ok (.iand, 1)) (kk : rb_WP Z G nL (pc + 1) L (.int (x &&& y) :: S) h) : rb_WP Z G nL pc L (.int y :: .int x :: S) h := by
  obtain ⟨p, l, e, R, s, m, args, below, meth, c, A, cells, slots, Q⟩ := Z
  obtain ⟨hx, hb, hml, hown, hsw, hA, hA2, hf, hlo, hce, hso⟩ := X
  intro H locs ls hP hS hl
  exact lv_iand hx hb d (kk H locs ls hP hS hl)
theorem rb_ior {Z : rb_Z} {G : rb_G} {cc : ByteArray} {nL : Nat} {own : String} {k pc : Nat} {L S : List Value} {h : rb_H} (X : rb_CX Z G cc nL own k) {x y : Int32} (d : decode cc pc = .ok (.ior, 1)) (kk : rb_WP Z G nL (pc + 1) L (.int (x ||| y) :: S) h) : rb_WP Z G nL pc L (.int y :: .int x :: S) h := by
  obtain ⟨p, l, e, R, s, m, args, below, meth, c, A, cells, slots, Q⟩ := Z
  obtain ⟨hx, hb, hml, hown, hsw, hA, hA2, hf, hlo, hce, hso⟩ := X
  intro H locs ls hP hS hl
  exact lv_ior hx hb d (kk H locs ls hP hS hl)
theorem rb_ixor {Z : rb_Z} {G : rb_G} {cc : ByteArray} {nL : Nat} {own : String} {k pc : Nat} {L S : List Value} {h : rb_H} (X : rb_CX Z G cc nL own k) {x y : Int32} (d : decode cc pc = .ok (.ixor, 1)) (kk : rb_WP Z G nL (pc + 1) L (.int (x ^^^ y) :: S) h) : rb_WP Z G nL pc L (.int y :: .int x :: S) h := by
  obtain ⟨p, l, e, R, s, m, args, below, meth, c, A, cells, slots, Q⟩ := Z
  obtain ⟨hx, hb, hml, hown, hsw, hA, hA2, hf, hlo, hce, hso⟩ := X
  intro H locs ls hP hS hl
  exact lv_ixor hx hb d (kk H locs ls hP hS hl)
theorem rb_ishl {Z : rb_Z} {G : rb_G} {cc : ByteArray} {nL : Nat} {own : String} {k pc : Nat} {L S : List Value} {h : rb_H} (X : rb_CX Z G cc nL own k) {x y : Int32} (d : decode cc pc = .ok (.ishl, 1)) (kk : rb_WP Z G nL (pc + 1) L (.int (x <<< (y &&& 31)) :: S) h) : rb_WP Z G nL pc L (.int y :: .int x :: S) h := by
  obtain ⟨p, l, e, R, s, m, args, below, meth, c, A, cells, slots, Q⟩ := Z
  obtain ⟨hx, hb, hml, hown, hsw, hA, hA2, hf, hlo, hce, hso⟩ := X
  intro H locs ls hP hS hl
  exact lv_ishl hx hb d (kk H locs ls hP hS hl)
theorem rb_ishr {Z : rb_Z} {G : rb_G} {cc : ByteArray} {nL : Nat} {own : String} {k pc : Nat} {L S : List Value} {h : rb_H} (X : rb_CX Z G cc nL own k) {x y : Int32} (d : decode cc pc = .ok (.ishr, 1)) (kk : rb_WP Z G nL (pc + 1) L (.int (x >>> (y &&& 31)) :: S) h) : rb_WP Z G nL pc L (.int y :: .int x :: S) h := by
  obtain ⟨p, l, e, R, s, m, args, below, meth, c, A, cells, slots, Q⟩ := Z
  obtain ⟨hx, hb, hml, hown, hsw, hA, hA2, hf, hlo, hce, hso⟩ := X
  intro H locs ls hP hS hl
  exact lv_ishr hx hb d (kk H locs ls hP hS hl)
theorem rb_idiv {Z : rb_Z} {G : rb_G} {cc : ByteArray} {nL : Nat} {own : String} {k pc : Nat} {L S : List Value} {h : rb_H} (X : rb_CX Z G cc nL own k) {x y : Int32} (d : decode cc pc = .ok (.idiv, 1)) (hne : ¬ y = 0) (kk : rb_WP Z G nL (pc + 1) L (.int (x / y) :: S) h) : rb_WP Z G nL pc L (.int y :: .int x :: S) h := by
  obtain ⟨p, l, e, R, s, m, args, below, meth, c, A, cells, slots, Q⟩ := Z
  obtain ⟨hx, hb, hml, hown, hsw, hA, hA2, hf, hlo, hce, hso⟩ := X
  intro H locs ls hP hS hl
  exact lv_idiv hx hb d hne (kk H locs ls hP hS hl)
theorem rb_irem {Z : rb_Z} {G : rb_G} {cc : ByteArray} {nL : Nat} {own : String} {k pc : Nat} {L S : List Value} {h : rb_H} (X : rb_CX Z G cc nL own k) {x y : Int32} (d : decode cc pc = .ok (.irem, 1)) (hne : ¬ y = 0) (kk : rb_WP Z G nL (pc + 1) L (.int (x - x / y * y) :: S) h) : rb_WP Z G nL pc L (.int y :: .int x :: S) h := by
  obtain ⟨p, l, e, R, s, m, args, below, meth, c, A, cells, slots, Q⟩ := Z
  obtain ⟨hx, hb, hml, hown, hsw, hA, hA2, hf, hlo, hce, hso⟩ := X
  intro H locs ls hP hS hl
  exact lv_irem hx hb d hne (kk H locs ls hP hS hl)
theorem rb_ladd {Z : rb_Z} {G : rb_G} {cc : ByteArray} {nL : Nat} {own : String} {k pc : Nat} {L S : List Value} {h : rb_H} (X : rb_CX Z G cc nL own k) {x y : Int64} (d : decode cc pc = .ok (.ladd, 1)) (kk : rb_WP Z G nL (pc + 1) L (.long (x + y) :: S) h) : rb_WP Z G nL pc L (.long y :: .long x :: S) h := by
  obtain ⟨p, l, e, R, s, m, args, below, meth, c, A, cells, slots, Q⟩ := Z
  obtain ⟨hx, hb, hml, hown, hsw, hA, hA2, hf, hlo, hce, hso⟩ := X
  intro H locs ls hP hS hl
  exact lv_ladd hx hb d (kk H locs ls hP hS hl)
theorem rb_lsub {Z : rb_Z} {G : rb_G} {cc : ByteArray} {nL : Nat} {own : String} {k pc : Nat} {L S : List Value} {h : rb_H} (X : rb_CX Z G cc nL own k) {x y : Int64} (d : decode cc pc = .ok (.lsub, 1)) (kk : rb_WP Z G nL (pc + 1) L (.long (x - y) :: S) h) : rb_WP Z G nL pc L (.long y :: .long x :: S) h := by
  obtain ⟨p, l, e, R, s, m, args, below, meth, c, A, cells, slots, Q⟩ := Z
  obtain ⟨hx, hb, hml, hown, hsw, hA, hA2, hf, hlo, hce, hso⟩ := X
  intro H locs ls hP hS hl
  exact lv_lsub hx hb d (kk H locs ls hP hS hl)
theorem rb_lmul {Z : rb_Z} {G : rb_G} {cc : ByteArray} {nL : Nat} {own : String} {k pc : Nat} {L S : List Value} {h : rb_H} (X : rb_CX Z G cc nL own k) {x y : Int64} (d : decode cc pc = .ok (.lmul, 1)) (kk : rb_WP Z G nL (pc + 1) L (.long (x * y) :: S) h) : rb_WP Z G nL pc L (.long y :: .long x :: S) h := by
  obtain ⟨p, l, e, R, s, m, args, below, meth, c, A, cells, slots, Q⟩ := Z
  obtain ⟨hx, hb, hml, hown, hsw, hA, hA2, hf, hlo, hce, hso⟩ := X
  intro H locs ls hP hS hl
  exact lv_lmul hx hb d (kk H locs ls hP hS hl)
theorem rb_land {Z : rb_Z} {G : rb_G} {cc : ByteArray} {nL : Nat} {own : String} {k pc : Nat} {L S : List Value} {h : rb_H} (X : rb_CX Z G cc nL own k) {x y : Int64} (d : decode cc pc = .ok (.land, 1)) (kk : rb_WP Z G nL (pc + 1) L (.long (x &&& y) :: S) h) : rb_WP Z G nL pc L (.long y :: .long x :: S) h := by
  obtain ⟨p, l, e, R, s, m, args, below, meth, c, A, cells, slots, Q⟩ := Z
  obtain ⟨hx, hb, hml, hown, hsw, hA, hA2, hf, hlo, hce, hso⟩ := X
  intro H locs ls hP hS hl
  exact lv_land hx hb d (kk H locs ls hP hS hl)
theorem rb_lor {Z : rb_Z} {G : rb_G} {cc : ByteArray} {nL : Nat} {own : String} {k pc : Nat} {L S : List Value} {h : rb_H} (X : rb_CX Z G cc nL own k) {x y : Int64} (d : decode cc pc = .ok (.lor, 1)) (kk : rb_WP Z G nL (pc + 1) L (.long (x ||| y) :: S) h) : rb_WP Z G nL pc L (.long y :: .long x :: S) h := by
  obtain ⟨p, l, e, R, s, m, args, below, meth, c, A, cells, slots, Q⟩ := Z
  obtain ⟨hx, hb, hml, hown, hsw, hA, hA2, hf, hlo, hce, hso⟩ := X
  intro H locs ls hP hS hl
  exact lv_lor hx hb d (kk H locs ls hP hS hl)
theorem rb_lcmp {Z : rb_Z} {G : rb_G} {cc : ByteArray} {nL : Nat} {own : String} {k pc : Nat} {L S : List Value} {h : rb_H} (X : rb_CX Z G cc nL own k) {x y : Int64} (d : decode cc pc = .ok (.lcmp, 1)) (kk : rb_WP Z G nL (pc + 1) L (.int (lg_cmp x y) :: S) h) : rb_WP Z G nL pc L (.long y :: .long x :: S) h := by
  obtain ⟨p, l, e, R, s, m, args, below, meth, c, A, cells, slots, Q⟩ := Z
  obtain ⟨hx, hb, hml, hown, hsw, hA, hA2, hf, hlo, hce, hso⟩ := X
  intro H locs ls hP hS hl
  exact W.lcmp hx hb d (kk H locs ls hP hS hl)
theorem rb_lshl {Z : rb_Z} {G : rb_G} {cc : ByteArray} {nL : Nat} {own : String} {k pc : Nat} {L S : List Value} {h : rb_H} (X : rb_CX Z G cc nL own k) {x : Int64} {y : Int32} (d : decode cc pc = .ok (.lshl, 1)) (kk : rb_WP Z G nL (pc + 1) L (.long (x <<< (y.toInt64 &&& 63)) :: S) h) : rb_WP Z G nL pc L (.int y :: .long x :: S) h := by
  obtain ⟨p, l, e, R, s, m, args, below, meth, c, A, cells, slots, Q⟩ := Z
  obtain ⟨hx, hb, hml, hown, hsw, hA, hA2, hf, hlo, hce, hso⟩ := X
  intro H locs ls hP hS hl
  exact lv_lshl hx hb d rfl (kk H locs ls hP hS hl)
theorem rb_iushr {Z : rb_Z} {G : rb_G} {cc : ByteArray} {nL : Nat} {own : String} {k pc : Nat} {L S : List Value} {h : rb_H} (X : rb_CX Z G cc nL own k) {x y : Int32} (d : decode cc pc = .ok (.iushr, 1)) (kk : rb_WP Z G nL (pc + 1) L (.int ((x.toUInt32 >>> (y.toUInt32 &&& Int32.toUInt32 31)).toInt32) :: S) h) : rb_WP Z G nL pc L (.int y :: .int x :: S) h := by
  obtain ⟨p, l, e, R, s, m, args, below, meth, c, A, cells, slots, Q⟩ := Z
  obtain ⟨hx, hb, hml, hown, hsw, hA, hA2, hf, hlo, hce, hso⟩ := X
  intro H locs ls hP hS hl
  exact lv_iushr hx hb d rfl (kk H locs ls hP hS hl)
theorem rb_i2l {Z : rb_Z} {G : rb_G} {cc : ByteArray} {nL : Nat} {own : String} {k pc : Nat} {L S : List Value} {h : rb_H} (X : rb_CX Z G cc nL own k) {x : Int32} (d : decode cc pc = .ok (.i2l, 1)) (kk : rb_WP Z G nL (pc + 1) L (.long (x.toInt64) :: S) h) : rb_WP Z G nL pc L (.int x :: S) h := by
  obtain ⟨p, l, e, R, s, m, args, below, meth, c, A, cells, slots, Q⟩ := Z
  obtain ⟨hx, hb, hml, hown, hsw, hA, hA2, hf, hlo, hce, hso⟩ := X
  intro H locs ls hP hS hl
  exact lv_i2l hx hb d rfl (kk H locs ls hP hS hl)
theorem rb_l2i {Z : rb_Z} {G : rb_G} {cc : ByteArray} {nL : Nat} {own : String} {k pc : Nat} {L S : List Value} {h : rb_H} (X : rb_CX Z G cc nL own k) {x : Int64} (d : decode cc pc = .ok (.l2i, 1)) (kk : rb_WP Z G nL (pc + 1) L (.int (x.toInt32) :: S) h) : rb_WP Z G nL pc L (.long x :: S) h := by
  obtain ⟨p, l, e, R, s, m, args, below, meth, c, A, cells, slots, Q⟩ := Z
  obtain ⟨hx, hb, hml, hown, hsw, hA, hA2, hf, hlo, hce, hso⟩ := X
  intro H locs ls hP hS hl
  exact lv_l2i hx hb d rfl (kk H locs ls hP hS hl)
theorem rb_i2b {Z : rb_Z} {G : rb_G} {cc : ByteArray} {nL : Nat} {own : String} {k pc : Nat} {L S : List Value} {h : rb_H} (X : rb_CX Z G cc nL own k) {x : Int32} (d : decode cc pc = .ok (.i2b, 1)) (kk : rb_WP Z G nL (pc + 1) L (.int (x.toInt8.toInt32) :: S) h) : rb_WP Z G nL pc L (.int x :: S) h := by
  obtain ⟨p, l, e, R, s, m, args, below, meth, c, A, cells, slots, Q⟩ := Z
  obtain ⟨hx, hb, hml, hown, hsw, hA, hA2, hf, hlo, hce, hso⟩ := X
  intro H locs ls hP hS hl
  exact lv_i2b hx hb d rfl (kk H locs ls hP hS hl)
theorem rb_i2s {Z : rb_Z} {G : rb_G} {cc : ByteArray} {nL : Nat} {own : String} {k pc : Nat} {L S : List Value} {h : rb_H} (X : rb_CX Z G cc nL own k) {x : Int32} (d : decode cc pc = .ok (.i2s, 1)) (kk : rb_WP Z G nL (pc + 1) L (.int (x.toInt16.toInt32) :: S) h) : rb_WP Z G nL pc L (.int x :: S) h := by
  obtain ⟨p, l, e, R, s, m, args, below, meth, c, A, cells, slots, Q⟩ := Z
  obtain ⟨hx, hb, hml, hown, hsw, hA, hA2, hf, hlo, hce, hso⟩ := X
  intro H locs ls hP hS hl
  exact lv_i2s hx hb d rfl (kk H locs ls hP hS hl)
theorem rb_i2c {Z : rb_Z} {G : rb_G} {cc : ByteArray} {nL : Nat} {own : String} {k pc : Nat} {L S : List Value} {h : rb_H} (X : rb_CX Z G cc nL own k) {x : Int32} (d : decode cc pc = .ok (.i2c, 1)) (kk : rb_WP Z G nL (pc + 1) L (.int ((x.toUInt32 % 65536).toInt32) :: S) h) : rb_WP Z G nL pc L (.int x :: S) h := by
  obtain ⟨p, l, e, R, s, m, args, below, meth, c, A, cells, slots, Q⟩ := Z
  obtain ⟨hx, hb, hml, hown, hsw, hA, hA2, hf, hlo, hce, hso⟩ := X
  intro H locs ls hP hS hl
  exact lv_i2c hx hb d rfl (kk H locs ls hP hS hl)
theorem rb_dup {Z : rb_Z} {G : rb_G} {cc : ByteArray} {nL : Nat} {own : String} {k pc : Nat} {L S : List Value} {h : rb_H} (X : rb_CX Z G cc nL own k) {v : Value} (d : decode cc pc = .ok (.dup, 1)) (hv : v.category = 1) (kk : rb_WP Z G nL (pc + 1) L (v :: v :: S) h) : rb_WP Z G nL pc L (v :: S) h := by
  obtain ⟨p, l, e, R, s, m, args, below, meth, c, A, cells, slots, Q⟩ := Z
  obtain ⟨hx, hb, hml, hown, hsw, hA, hA2, hf, hlo, hce, hso⟩ := X
  intro H locs ls hP hS hl
  exact lv_dup hx hb d hv (kk H locs ls hP hS hl)
theorem rb_pop {Z : rb_Z} {G : rb_G} {cc : ByteArray} {nL : Nat} {own : String} {k pc : Nat} {L S : List Value} {h : rb_H} (X : rb_CX Z G cc nL own k) {v : Value} (d : decode cc pc = .ok (.pop, 1)) (hv : v.category = 1) (kk : rb_WP Z G nL (pc + 1) L (S) h) : rb_WP Z G nL pc L (v :: S) h := by
  obtain ⟨p, l, e, R, s, m, args, below, meth, c, A, cells, slots, Q⟩ := Z
  obtain ⟨hx, hb, hml, hown, hsw, hA, hA2, hf, hlo, hce, hso⟩ := X
  intro H locs ls hP hS hl
  exact lv_pop hx hb d hv (kk H locs ls hP hS hl)
theorem rb_dup2 {Z : rb_Z} {G : rb_G} {cc : ByteArray} {nL : Nat} {own : String} {k pc : Nat} {L S : List Value} {h : rb_H} (X : rb_CX Z G cc nL own k) {v w : Value} (d : decode cc pc = .ok (.dup2, 1)) (hv : v.category = 1) (hw : w.category = 1) (kk : rb_WP Z G nL (pc + 1) L (v :: w :: v :: w :: S) h) : rb_WP Z G nL pc L (v :: w :: S) h := by
  obtain ⟨p, l, e, R, s, m, args, below, meth, c, A, cells, slots, Q⟩ := Z
  obtain ⟨hx, hb, hml, hown, hsw, hA, hA2, hf, hlo, hce, hso⟩ := X
  intro H locs ls hP hS hl
  exact lv_dup2_11 hx hb d hv hw (kk H locs ls hP hS hl)
theorem rb_if_eq {Z : rb_Z} {G : rb_G} {cc : ByteArray} {nL : Nat} {own : String} {k pc : Nat} {L S : List Value} {h : rb_H} (X : rb_CX Z G cc nL own k) {x : Int32} {off : Int} {tgt : Nat} (d : decode cc pc = .ok (.ifCond .eq off, 3)) (ht : (pc : Int) + off = (tgt : Int)) (kt : (x = 0) → rb_WP Z G nL tgt L S h) (kf : (¬ x = 0) → rb_WP Z G nL (pc + 3) L (S) h) : rb_WP Z G nL pc L (.int x :: S) h := by
  obtain ⟨p, l, e, R, s, m, args, below, meth, c, A, cells, slots, Q⟩ := Z
  obtain ⟨hx, hb, hml, hown, hsw, hA, hA2, hf, hlo, hce, hso⟩ := X
  intro H locs ls hP hS hl
  exact lv_if_eq hx hb d ht (fun q => kt q H locs ls hP hS hl) (fun q => kf q H locs ls hP hS hl)
theorem rb_icmp_eq {Z : rb_Z} {G : rb_G} {cc : ByteArray} {nL : Nat} {own : String} {k pc : Nat} {L S : List Value} {h : rb_H} (X : rb_CX Z G cc nL own k) {x y : Int32} {off : Int} {tgt : Nat} (d : decode cc pc = .ok (.if_icmp .eq off, 3)) (ht : (pc : Int) + off = (tgt : Int)) (kt : (x = y) → rb_WP Z G nL tgt L S h) (kf : (¬ x = y) → rb_WP Z G nL (pc + 3) L (S) h) : rb_WP Z G nL pc L (.int y :: .int x :: S) h := by
  obtain ⟨p, l, e, R, s, m, args, below, meth, c, A, cells, slots, Q⟩ := Z
  obtain ⟨hx, hb, hml, hown, hsw, hA, hA2, hf, hlo, hce, hso⟩ := X
  intro H locs ls hP hS hl
  exact lv_icmp_eq hx hb d ht (fun q => kt q H locs ls hP hS hl) (fun q => kf q H locs ls hP hS hl)
theorem rb_if_ne {Z : rb_Z} {G : rb_G} {cc : ByteArray} {nL : Nat} {own : String} {k pc : Nat} {L S : List Value} {h : rb_H} (X : rb_CX Z G cc nL own k) {x : Int32} {off : Int} {tgt : Nat} (d : decode cc pc = .ok (.ifCond .ne off, 3)) (ht : (pc : Int) + off = (tgt : Int)) (kt : (¬ x = 0) → rb_WP Z G nL tgt L S h) (kf : (x = 0) → rb_WP Z G nL (pc + 3) L (S) h) : rb_WP Z G nL pc L (.int x :: S) h := by
  obtain ⟨p, l, e, R, s, m, args, below, meth, c, A, cells, slots, Q⟩ := Z
  obtain ⟨hx, hb, hml, hown, hsw, hA, hA2, hf, hlo, hce, hso⟩ := X
  intro H locs ls hP hS hl
  exact lv_if_ne hx hb d ht (fun q => kt q H locs ls hP hS hl) (fun q => kf q H locs ls hP hS hl)
theorem rb_icmp_ne {Z : rb_Z} {G : rb_G} {cc : ByteArray} {nL : Nat} {own : String} {k pc : Nat} {L S : List Value} {h : rb_H} (X : rb_CX Z G cc nL own k) {x y : Int32} {off : Int} {tgt : Nat} (d : decode cc pc = .ok (.if_icmp .ne off, 3)) (ht : (pc : Int) + off = (tgt : Int)) (kt : (¬ x = y) → rb_WP Z G nL tgt L S h) (kf : (x = y) → rb_WP Z G nL (pc + 3) L (S) h) : rb_WP Z G nL pc L (.int y :: .int x :: S) h := by
  obtain ⟨p, l, e, R, s, m, args, below, meth, c, A, cells, slots, Q⟩ := Z
  obtain ⟨hx, hb, hml, hown, hsw, hA, hA2, hf, hlo, hce, hso⟩ := X
  intro H locs ls hP hS hl
  exact lv_icmp_ne hx hb d ht (fun q => kt q H locs ls hP hS hl) (fun q => kf q H locs ls hP hS hl)
theorem rb_if_lt {Z : rb_Z} {G : rb_G} {cc : ByteArray} {nL : Nat} {own : String} {k pc : Nat} {L S : List Value} {h : rb_H} (X : rb_CX Z G cc nL own k) {x : Int32} {off : Int} {tgt : Nat} (d : decode cc pc = .ok (.ifCond .lt off, 3)) (ht : (pc : Int) + off = (tgt : Int)) (kt : (x < 0) → rb_WP Z G nL tgt L S h) (kf : (¬ x < 0) → rb_WP Z G nL (pc + 3) L (S) h) : rb_WP Z G nL pc L (.int x :: S) h := by
  obtain ⟨p, l, e, R, s, m, args, below, meth, c, A, cells, slots, Q⟩ := Z
  obtain ⟨hx, hb, hml, hown, hsw, hA, hA2, hf, hlo, hce, hso⟩ := X
  intro H locs ls hP hS hl
  exact lv_if_lt hx hb d ht (fun q => kt q H locs ls hP hS hl) (fun q => kf q H locs ls hP hS hl)
theorem rb_icmp_lt {Z : rb_Z} {G : rb_G} {cc : ByteArray} {nL : Nat} {own : String} {k pc : Nat} {L S : List Value} {h : rb_H} (X : rb_CX Z G cc nL own k) {x y : Int32} {off : Int} {tgt : Nat} (d : decode cc pc = .ok (.if_icmp .lt off, 3)) (ht : (pc : Int) + off = (tgt : Int)) (kt : (x < y) → rb_WP Z G nL tgt L S h) (kf : (¬ x < y) → rb_WP Z G nL (pc + 3) L (S) h) : rb_WP Z G nL pc L (.int y :: .int x :: S) h := by
  obtain ⟨p, l, e, R, s, m, args, below, meth, c, A, cells, slots, Q⟩ := Z
  obtain ⟨hx, hb, hml, hown, hsw, hA, hA2, hf, hlo, hce, hso⟩ := X
  intro H locs ls hP hS hl
  exact lv_icmp_lt hx hb d ht (fun q => kt q H locs ls hP hS hl) (fun q => kf q H locs ls hP hS hl)
theorem rb_if_ge {Z : rb_Z} {G : rb_G} {cc : ByteArray} {nL : Nat} {own : String} {k pc : Nat} {L S : List Value} {h : rb_H} (X : rb_CX Z G cc nL own k) {x : Int32} {off : Int} {tgt : Nat} (d : decode cc pc = .ok (.ifCond .ge off, 3)) (ht : (pc : Int) + off = (tgt : Int)) (kt : (0 ≤ x) → rb_WP Z G nL tgt L S h) (kf : (¬ 0 ≤ x) → rb_WP Z G nL (pc + 3) L (S) h) : rb_WP Z G nL pc L (.int x :: S) h := by
  obtain ⟨p, l, e, R, s, m, args, below, meth, c, A, cells, slots, Q⟩ := Z
  obtain ⟨hx, hb, hml, hown, hsw, hA, hA2, hf, hlo, hce, hso⟩ := X
  intro H locs ls hP hS hl
  exact lv_if_ge hx hb d ht (fun q => kt q H locs ls hP hS hl) (fun q => kf q H locs ls hP hS hl)
theorem rb_icmp_ge {Z : rb_Z} {G : rb_G} {cc : ByteArray} {nL : Nat} {own : String} {k pc : Nat} {L S : List Value} {h : rb_H} (X : rb_CX Z G cc nL own k) {x y : Int32} {off : Int} {tgt : Nat} (d : decode cc pc = .ok (.if_icmp .ge off, 3)) (ht : (pc : Int) + off = (tgt : Int)) (kt : (y ≤ x) → rb_WP Z G nL tgt L S h) (kf : (¬ y ≤ x) → rb_WP Z G nL (pc + 3) L (S) h) : rb_WP Z G nL pc L (.int y :: .int x :: S) h := by
  obtain ⟨p, l, e, R, s, m, args, below, meth, c, A, cells, slots, Q⟩ := Z
  obtain ⟨hx, hb, hml, hown, hsw, hA, hA2, hf, hlo, hce, hso⟩ := X
  intro H locs ls hP hS hl
  exact lv_icmp_ge hx hb d ht (fun q => kt q H locs ls hP hS hl) (fun q => kf q H locs ls hP hS hl)
theorem rb_if_gt {Z : rb_Z} {G : rb_G} {cc : ByteArray} {nL : Nat} {own : String} {k pc : Nat} {L S : List Value} {h : rb_H} (X : rb_CX Z G cc nL own k) {x : Int32} {off : Int} {tgt : Nat} (d : decode cc pc = .ok (.ifCond .gt off, 3)) (ht : (pc : Int) + off = (tgt : Int)) (kt : (0 < x) → rb_WP Z G nL tgt L S h) (kf : (¬ 0 < x) → rb_WP Z G nL (pc + 3) L (S) h) : rb_WP Z G nL pc L (.int x :: S) h := by
  obtain ⟨p, l, e, R, s, m, args, below, meth, c, A, cells, slots, Q⟩ := Z
  obtain ⟨hx, hb, hml, hown, hsw, hA, hA2, hf, hlo, hce, hso⟩ := X
  intro H locs ls hP hS hl
  exact lv_if_gt hx hb d ht (fun q => kt q H locs ls hP hS hl) (fun q => kf q H locs ls hP hS hl)
theorem rb_icmp_gt {Z : rb_Z} {G : rb_G} {cc : ByteArray} {nL : Nat} {own : String} {k pc : Nat} {L S : List Value} {h : rb_H} (X : rb_CX Z G cc nL own k) {x y : Int32} {off : Int} {tgt : Nat} (d : decode cc pc = .ok (.if_icmp .gt off, 3)) (ht : (pc : Int) + off = (tgt : Int)) (kt : (y < x) → rb_WP Z G nL tgt L S h) (kf : (¬ y < x) → rb_WP Z G nL (pc + 3) L (S) h) : rb_WP Z G nL pc L (.int y :: .int x :: S) h := by
  obtain ⟨p, l, e, R, s, m, args, below, meth, c, A, cells, slots, Q⟩ := Z
  obtain ⟨hx, hb, hml, hown, hsw, hA, hA2, hf, hlo, hce, hso⟩ := X
  intro H locs ls hP hS hl
  exact lv_icmp_gt hx hb d ht (fun q => kt q H locs ls hP hS hl) (fun q => kf q H locs ls hP hS hl)
theorem rb_if_le {Z : rb_Z} {G : rb_G} {cc : ByteArray} {nL : Nat} {own : String} {k pc : Nat} {L S : List Value} {h : rb_H} (X : rb_CX Z G cc nL own k) {x : Int32} {off : Int} {tgt : Nat} (d : decode cc pc = .ok (.ifCond .le off, 3)) (ht : (pc : Int) + off = (tgt : Int)) (kt : (x ≤ 0) → rb_WP Z G nL tgt L S h) (kf : (¬ x ≤ 0) → rb_WP Z G nL (pc + 3) L (S) h) : rb_WP Z G nL pc L (.int x :: S) h := by
  obtain ⟨p, l, e, R, s, m, args, below, meth, c, A, cells, slots, Q⟩ := Z
  obtain ⟨hx, hb, hml, hown, hsw, hA, hA2, hf, hlo, hce, hso⟩ := X
  intro H locs ls hP hS hl
  exact lv_if_le hx hb d ht (fun q => kt q H locs ls hP hS hl) (fun q => kf q H locs ls hP hS hl)
theorem rb_icmp_le {Z : rb_Z} {G : rb_G} {cc : ByteArray} {nL : Nat} {own : String} {k pc : Nat} {L S : List Value} {h : rb_H} (X : rb_CX Z G cc nL own k) {x y : Int32} {off : Int} {tgt : Nat} (d : decode cc pc = .ok (.if_icmp .le off, 3)) (ht : (pc : Int) + off = (tgt : Int)) (kt : (x ≤ y) → rb_WP Z G nL tgt L S h) (kf : (¬ x ≤ y) → rb_WP Z G nL (pc + 3) L (S) h) : rb_WP Z G nL pc L (.int y :: .int x :: S) h := by
  obtain ⟨p, l, e, R, s, m, args, below, meth, c, A, cells, slots, Q⟩ := Z
  obtain ⟨hx, hb, hml, hown, hsw, hA, hA2, hf, hlo, hce, hso⟩ := X
  intro H locs ls hP hS hl
  exact lv_icmp_le hx hb d ht (fun q => kt q H locs ls hP hS hl) (fun q => kf q H locs ls hP hS hl)
theorem rb_goto {Z : rb_Z} {G : rb_G} {cc : ByteArray} {nL : Nat} {own : String} {k pc : Nat} {L S : List Value} {h : rb_H} (X : rb_CX Z G cc nL own k) {off : Int} {tgt : Nat} (d : decode cc pc = .ok (.goto off, 3)) (ht : (pc : Int) + off = (tgt : Int)) (kk : rb_WP Z G nL tgt L S h) : rb_WP Z G nL pc L (S) h := by
  obtain ⟨p, l, e, R, s, m, args, below, meth, c, A, cells, slots, Q⟩ := Z
  obtain ⟨hx, hb, hml, hown, hsw, hA, hA2, hf, hlo, hce, hso⟩ := X
  intro H locs ls hP hS hl
  exact lv_goto hx hb d ht (kk H locs ls hP hS hl)
theorem rb_tabOut {Z : rb_Z} {G : rb_G} {cc : ByteArray} {nL : Nat} {own : String} {k pc : Nat} {L S : List Value} {h : rb_H} (X : rb_CX Z G cc nL own k) {dflt lo hi : Int} {offs : Array Int} {len : Nat} {x : Int32} {tgt : Nat} (d : decode cc pc = .ok (.tableswitch dflt lo hi offs, len)) (hq : x.toInt < lo ∨ hi < x.toInt) (ht : (pc : Int) + dflt = (tgt : Int)) (kk : rb_WP Z G nL tgt L S h) : rb_WP Z G nL pc L (.int x :: S) h := by
  obtain ⟨p, l, e, R, s, m, args, below, meth, c, A, cells, slots, Q⟩ := Z
  obtain ⟨hx, hb, hml, hown, hsw, hA, hA2, hf, hlo, hce, hso⟩ := X
  intro H locs ls hP hS hl
  exact lv_tableOut hx hb d hq ht (kk H locs ls hP hS hl)
theorem rb_tabIn {Z : rb_Z} {G : rb_G} {cc : ByteArray} {nL : Nat} {own : String} {k pc : Nat} {L S : List Value} {h : rb_H} (X : rb_CX Z G cc nL own k) {dflt lo hi : Int} {offs : Array Int} {len : Nat} {x : Int32} {off : Int} {tgt : Nat} (d : decode cc pc = .ok (.tableswitch dflt lo hi offs, len)) (h1 : ¬ x.toInt < lo) (h2 : ¬ hi < x.toInt) (ho : offs[(x.toInt - lo).toNat]? = some off) (ht : (pc : Int) + off = (tgt : Int)) (kk : rb_WP Z G nL tgt L S h) : rb_WP Z G nL pc L (.int x :: S) h := by
  obtain ⟨p, l, e, R, s, m, args, below, meth, c, A, cells, slots, Q⟩ := Z
  obtain ⟨hx, hb, hml, hown, hsw, hA, hA2, hf, hlo, hce, hso⟩ := X
  intro H locs ls hP hS hl
  exact lv_tableIn hx hb d h1 h2 ho ht (kk H locs ls hP hS hl)
theorem rb_iret {Z : rb_Z} {G : rb_G} {cc : ByteArray} {nL : Nat} {own : String} {k pc : Nat} {L S : List Value} {h : rb_H} {post : Option Value → rb_H → Prop} {v : Int32} (X : rb_CX Z G cc nL own k) (Y : rb_RT Z G (some .int) post) (d : decode cc pc = .ok (.ireturn, 1)) (hp : post (some (.int v)) h) : rb_WP Z G nL pc L [.int v] h := by
  obtain ⟨p, l, e, R, s, m, args, below, meth, c, A, cells, slots, Q⟩ := Z
  obtain ⟨hx, hb, hml, hown, hsw, hA, hA2, hf, hlo, hce, hso⟩ := X
  obtain ⟨rfl, hr, hlk, rfl⟩ := Y
  intro H locs ls hP hS hl
  exact W.iret hx hb hr (fun t ht hW => ⟨⟨_, h, rfl, hp, by rw [ht]; exact hP⟩, hS.F ht⟩) hS.2.2 d hlk
theorem rb_lret {Z : rb_Z} {G : rb_G} {cc : ByteArray} {nL : Nat} {own : String} {k pc : Nat} {L S : List Value} {h : rb_H} {post : Option Value → rb_H → Prop} {v : Int64} (X : rb_CX Z G cc nL own k) (Y : rb_RT Z G (some .long) post) (d : decode cc pc = .ok (.lreturn, 1)) (hp : post (some (.long v)) h) : rb_WP Z G nL pc L [.long v] h := by
  obtain ⟨p, l, e, R, s, m, args, below, meth, c, A, cells, slots, Q⟩ := Z
  obtain ⟨hx, hb, hml, hown, hsw, hA, hA2, hf, hlo, hce, hso⟩ := X
  obtain ⟨rfl, hr, hlk, rfl⟩ := Y
  intro H locs ls hP hS hl
  exact W.lret hx hb hr (fun t ht hW => ⟨⟨_, h, rfl, hp, by rw [ht]; exact hP⟩, hS.F ht⟩) hS.2.2 d hlk
theorem rb_vret {Z : rb_Z} {G : rb_G} {cc : ByteArray} {nL : Nat} {own : String} {k pc : Nat} {L S : List Value} {h : rb_H} {post : Option Value → rb_H → Prop} (X : rb_CX Z G cc nL own k) (Y : rb_RT Z G none post) (d : decode cc pc = .ok (.return_, 1)) (hp : post none h) : rb_WP Z G nL pc L [] h := by
  obtain ⟨p, l, e, R, s, m, args, below, meth, c, A, cells, slots, Q⟩ := Z
  obtain ⟨hx, hb, hml, hown, hsw, hA, hA2, hf, hlo, hce, hso⟩ := X
  obtain ⟨rfl, hr, hlk, rfl⟩ := Y
  intro H locs ls hP hS hl
  exact W.vret hx hb hr (fun t ht hW => ⟨⟨_, h, rfl, hp, by rw [ht]; exact hP⟩, hS.F ht⟩) hS.2.2 d hlk
theorem rb_zret {Z : rb_Z} {G : rb_G} {cc : ByteArray} {nL : Nat} {own : String} {k pc : Nat} {L S : List Value} {h : rb_H} {post : Option Value → rb_H → Prop} {v : Int32} {ty : FieldType} (X : rb_CX Z G cc nL own k) (Y : rb_RT Z G (some ty) post) (d : decode cc pc = .ok (.ireturn, 1)) (hn : narrow ty (.int v) = .int v) (hp : post (some (.int v)) h) : rb_WP Z G nL pc L [.int v] h := by
  obtain ⟨p, l, e, R, s, m, args, below, meth, c, A, cells, slots, Q⟩ := Z
  obtain ⟨hx, hb, hml, hown, hsw, hA, hA2, hf, hlo, hce, hso⟩ := X
  obtain ⟨rfl, hr, hlk, rfl⟩ := Y
  intro H locs ls hP hS hl
  exact W.zret hx hb hr hn (fun t ht hW => ⟨⟨_, h, rfl, hp, by rw [ht]; exact hP⟩, hS.F ht⟩) hS.2.2 d hlk
theorem rb_aret {Z : rb_Z} {G : rb_G} {cc : ByteArray} {nL : Nat} {own : String} {k pc : Nat} {L S : List Value} {h : rb_H} {post : Option Value → rb_H → Prop} {a : Nat} {C : String} (X : rb_CX Z G cc nL own k) (Y : rb_RT Z G (some (.object C)) post) (d : decode cc pc = .ok (.areturn, 1)) (hp : post (some (.ref a)) h) : rb_WP Z G nL pc L [.ref a] h := by
  obtain ⟨p, l, e, R, s, m, args, below, meth, c, A, cells, slots, Q⟩ := Z
  obtain ⟨hx, hb, hml, hown, hsw, hA, hA2, hf, hlo, hce, hso⟩ := X
  obtain ⟨rfl, hr, hlk, rfl⟩ := Y
  intro H locs ls hP hS hl
  exact W.aret hx hb hr (Or.inl ⟨_, rfl⟩) (Or.inr ⟨_, rfl⟩) (fun t ht hW => ⟨⟨_, h, rfl, hp, by rw [ht]; exact hP⟩, hS.F ht⟩) hS.2.2 d hlk
/-! fields, arrays, calls -/
theorem rb_cls : ∀ (ci : Nat) (q : vw_C), vwCl[ci]? = some q → (∀ w ∈ u_ws q.1 q.2.1 q.2.2, w ∈ lw_tbl ∧ rb_gd w = true) ∧ ∃ ty0 : Nat → FieldType, (∀ k, k < q.2.2 → parseFieldDescriptor (q.2.1 k).2.2.1 = some (ty0 k)) ∧ ∀ a, a < q.2.2 → ∀ b, b < q.2.2 → a ≠ b → (q.2.1 a).2.1 ≠ (q.2.1 b).2.1 := by
  intro ci q hq
  rcases ci with _ | _ | _ | _ | _ | ci
  · cases hq; exact ⟨by decide +kernel, tyX1, tyX1_ok, nmX1⟩
  · cases hq; exact ⟨by decide +kernel, tyX2, tyX2_ok, nmX2⟩
  · cases hq; exact ⟨by decide +kernel, tyX3, tyX3_ok, nmX3⟩
  · cases hq; exact ⟨by decide +kernel, tyX4, tyX4_ok, nmX4⟩
  · cases hq; exact ⟨by decide +kernel, tyX5, tyX5_ok, nmX5⟩
  · simp [vwCl] at hq
/-- a field's link in a pool: class number, field number -/
def rb_FL (own : String) (idx ci kf : Nat) : Prop := ∃ q : vw_C, vwCl[ci]? = some q ∧ kf < q.2.2 ∧ (Cond.fieldLink own idx (q.2.1 kf).1 (q.2.1 kf).2.1 (q.2.1 kf).2.2.1 ∈ lw_tbl ∨ ∃ host, Cond.fieldLinkNest own idx (q.2.1 kf).1 (q.2.1 kf).2.1 (q.2.1 kf).2.2.1 host ∈ lw_tbl)
theorem rb_nF : ∀ q ∈ rb_ids, q.2 = 0 → (vwCl[rb_ci q.1]?).map (fun x => x.2.2) = some (rb_fk q.1).length := by decide
theorem rb_arF : ∀ q ∈ rb_ids, ∀ j, j < 17 → q.2 = j + 1 → (rb_fk q.1).getD j 0 = 1 := by decide
theorem rb_idb : ∀ q ∈ rb_ids, q.2 < 17 := by decide
theorem rb_arK {o j : Nat} (ho : (o, j + 1) ∈ rb_ids) : (rb_fk o).getD j 0 = 1 := rb_arF _ ho j (by have := rb_idb _ ho; simp only at this; omega) rfl
theorem rb_fv_eq {G : rb_G} {h h' : rb_H} {o j : Nat} (hh : (rb_fk o).getD j 0 = 0 → h'.1 o j 0 = h.1 o j 0) : rb_fv G h' o j = rb_fv G h o j := by
  unfold rb_fv
  generalize (rb_fk o).getD j 0 = q at hh
  rcases q with _ | _ | q
  · simp [rb_fv0, hh rfl]
  · rfl
  · rfl
theorem rb_fl_eq {G : rb_G} {h h' : rb_H} {o : Nat} (hh : ∀ j, (rb_fk o).getD j 0 = 0 → h'.1 o j 0 = h.1 o j 0) : rb_fl G h' o = rb_fl G h o := by
  unfold rb_fl
  exact List.map_congr_left (fun j _ => rb_fv_eq (hh j))
theorem rb_ac_eq {G : rb_G} {h h' : rb_H} {o j n : Nat} (h1 : h'.1 o j = h.1 o j) (h2 : h'.2 o j = h.2 o j) : rb_ac G h' o j n = rb_ac G h o j n := by
  rcases n with _ | _ | n
  · simp [rb_ac, h1]
  · simp [rb_ac, h2]
  · rfl
theorem rb_fl_at {G : rb_G} {h : rb_H} {o kf ci : Nat} {q : vw_C} (ho : (o, 0) ∈ rb_ids) (hci : rb_ci o = ci) (hc : vwCl[ci]? = some q) (hk : kf < q.2.2) : kf < (rb_fk o).length ∧ (rb_fl G h o)[kf]? = some (rb_fv G h o kf) := by
  have h1 := rb_nF _ ho rfl
  rw [hci, hc] at h1
  have h2 : q.2.2 = (rb_fk o).length := by simpa using h1
  have h3 : kf < (rb_fk o).length := by omega
  exact ⟨h3, by simp [rb_fl, h3]⟩
def rb_u (h : rb_H) (o j i : Nat) (v : Int32) : rb_H := (va_up h.1 o (va_up (h.1 o) j (va_up (h.1 o j) i v)), h.2)
def rb_ul (h : rb_H) (o j i : Nat) (v : Int64) : rb_H := (h.1, va_up h.2 o (va_up (h.2 o) j (va_up (h.2 o j) i v)))
def rb_row (h : rb_H) (o j : Nat) (f : Nat → Int32) : rb_H := (va_up h.1 o (va_up (h.1 o) j f), h.2)
def rb_rowl (h : rb_H) (o j : Nat) (f : Nat → Int64) : rb_H := (h.1, va_up h.2 o (va_up (h.2 o) j f))
theorem rb_row_same {h : rb_H} {o j : Nat} {f : Nat → Int32} : (rb_row h o j f).1 o j = f := by simp [rb_row, va_up]
theorem rb_row_ne {h : rb_H} {o j o' j' : Nat} {f : Nat → Int32} (hn : ¬ (o' = o ∧ j' = j)) : (rb_row h o j f).1 o' j' = h.1 o' j' := by
  simp only [rb_row, va_up]
  by_cases h1 : o' = o
  · subst h1
    have : ¬ j' = j := fun e => hn ⟨rfl, e⟩
    simp [va_up, this]
  · simp [h1]
theorem rb_rowl_same {h : rb_H} {o j : Nat} {f : Nat → Int64} : (rb_rowl h o j f).2 o j = f := by simp [rb_rowl, va_up]
theorem rb_rowl_ne {h : rb_H} {o j o' j' : Nat} {f : Nat → Int64} (hn : ¬ (o' = o ∧ j' = j)) : (rb_rowl h o j f).2 o' j' = h.2 o' j' := by
  simp only [rb_rowl, va_up]
  by_cases h1 : o' = o
  · subst h1
    have : ¬ j' = j := fun e => hn ⟨rfl, e⟩
    simp [va_up, this]
  · simp [h1]
theorem rb_u_row {h : rb_H} {o j i : Nat} {v : Int32} : rb_u h o j i v = rb_row h o j (va_up (h.1 o j) i v) := rfl
theorem rb_ul_row {h : rb_H} {o j i : Nat} {v : Int64} : rb_ul h o j i v = rb_rowl h o j (va_up (h.2 o j) i v) := rfl
/-- an int row changes: which cell, which others stay -/
theorem rb_row_cl {G : rb_G} {h : rb_H} {o j : Nat} {f : Nat → Int32} {n : Nat} (ho : (o, j + 1) ∈ rb_ids) (hs : rb_ak o j = (0, n)) : rb_cl G (rb_row h o j f) o (j + 1) = .inl (G.2.1 0, n, .inl f) := by
  simp [rb_cl, rb_ac, hs, rb_row_same]
theorem rb_row_oth {G : rb_G} {h : rb_H} {o j : Nat} {f : Nat → Int32} (ho : (o, j + 1) ∈ rb_ids) : ∀ o' j', (o', j') ∈ rb_ids → (o', j') ≠ (o, j + 1) → rb_cl G (rb_row h o j f) o' j' = rb_cl G h o' j' := by
  intro o' j' hm hne
  rcases j' with _ | j'
  · show (Sum.inr (rb_ci o', rb_fl G (rb_row h o j f) o') : va_E) = Sum.inr (rb_ci o', rb_fl G h o')
    rw [rb_fl_eq (h := h)]
    intro j2 hj2
    have : ¬ (o' = o ∧ j2 = j) := by
      rintro ⟨rfl, rfl⟩
      rw [rb_arK ho] at hj2
      cases hj2
    rw [rb_row_ne this]
  · have : ¬ (o' = o ∧ j' = j) := by
      rintro ⟨rfl, rfl⟩
      exact hne rfl
    exact rb_ac_eq (rb_row_ne this) rfl
theorem rb_rowl_cl {G : rb_G} {h : rb_H} {o j : Nat} {f : Nat → Int64} {n : Nat} (ho : (o, j + 1) ∈ rb_ids) (hs : rb_ak o j = (1, n)) : rb_cl G (rb_rowl h o j f) o (j + 1) = .inl (G.2.1 1, n, .inr (.inl f)) := by
  simp [rb_cl, rb_ac, hs, rb_rowl_same]
theorem rb_rowl_oth {G : rb_G} {h : rb_H} {o j : Nat} {f : Nat → Int64} : ∀ o' j', (o', j') ∈ rb_ids → (o', j') ≠ (o, j + 1) → rb_cl G (rb_rowl h o j f) o' j' = rb_cl G h o' j' := by
  intro o' j' hm hne
  rcases j' with _ | j'
  · show (Sum.inr (rb_ci o', rb_fl G (rb_rowl h o j f) o') : va_E) = Sum.inr (rb_ci o', rb_fl G h o')
    rw [rb_fl_eq (h := h)]
    intro j2 hj2
    rfl
  · have : ¬ (o' = o ∧ j' = j) := by
      rintro ⟨rfl, rfl⟩
      exact hne rfl
    exact rb_ac_eq rfl (rb_rowl_ne this)
theorem rb_fld_cl {G : rb_G} {h : rb_H} {o kf : Nat} {v : Int32} (hk : kf < (rb_fk o).length) (h0 : (rb_fk o).getD kf 0 = 0) : rb_cl G (rb_u h o kf 0 v) o 0 = .inr (rb_ci o, (rb_fl G h o).set kf (.int v)) := by
  show (Sum.inr (rb_ci o, rb_fl G (rb_u h o kf 0 v) o) : va_E) = _
  congr 2
  apply List.ext_getElem?
  intro i
  by_cases hi : i = kf
  · subst hi
    rw [List.getElem?_set_self (by simpa [rb_fl] using hk)]
    simp only [rb_fl, List.getElem?_map, List.getElem?_range hk, Option.map_some]
    unfold rb_fv
    rw [h0]
    simp [rb_fv0, rb_u, va_up]
  · rw [List.getElem?_set_ne (Ne.symm hi)]
    simp only [rb_fl, List.getElem?_map]
    by_cases hl : i < (rb_fk o).length
    · simp only [List.getElem?_range hl, Option.map_some]
      rw [rb_fv_eq (h := h)]
      intro _
      rw [rb_u_row, rb_row_ne (fun z => hi z.2)]
    · rw [List.getElem?_eq_none (by simpa using hl)]
      rfl
theorem rb_fld_oth {G : rb_G} {h : rb_H} {o kf : Nat} {v : Int32} (h0 : (rb_fk o).getD kf 0 = 0) : ∀ o' j', (o', j') ∈ rb_ids → (o', j') ≠ (o, 0) → rb_cl G (rb_u h o kf 0 v) o' j' = rb_cl G h o' j' := by
  intro o' j' hm hne
  rcases j' with _ | j'
  · show (Sum.inr (rb_ci o', rb_fl G (rb_u h o kf 0 v) o') : va_E) = Sum.inr (rb_ci o', rb_fl G h o')
    rw [rb_fl_eq (h := h)]
    intro j2 hj2
    have : ¬ (o' = o ∧ j2 = kf) := by
      rintro ⟨rfl, rfl⟩
      exact hne rfl
    rw [rb_u_row, rb_row_ne this]
  · have : ¬ (o' = o ∧ j' = kf) := by
      rintro ⟨rfl, rfl⟩
      rw [rb_arK hm] at h0
      cases h0
    exact rb_ac_eq (by rw [rb_u_row, rb_row_ne this]) rfl
section RB
variable {Z : rb_Z} {G : rb_G} {cc : ByteArray} {nL : Nat} {own : String} {k pc : Nat} {L S : List Value} {h : rb_H}
theorem rb_get (X : rb_CX Z G cc nL own k) {o ci kf idx : Nat} {v : Value} (f : rb_FL own idx ci kf) (ho : (o, 0) ∈ rb_ids) (hci : rb_ci o = ci) (hv : rb_fv G h o kf = v) (d : decode cc pc = .ok (.getfield idx, 3)) (kk : rb_WP Z G nL (pc + 3) L (v :: S) h) : rb_WP Z G nL pc L (.ref (rb_ad G o 0) :: S) h := by
  obtain ⟨p, l, e, R, s, m, args, below, meth, c, A, cells, slots, Q⟩ := Z
  obtain ⟨hx, hb, hml, hown, hsw, hA, hA2, hf, hlo, hce, hso⟩ := X
  intro H locs ls hP hS hl
  obtain ⟨q, hc, hk, hlk⟩ := f
  obtain ⟨hw, -⟩ := rb_cls ci q hc
  obtain ⟨n, -, hq⟩ := rb_at (G := G) (h := h) ho
  have hts : ∀ w ∈ u_ws q.1 q.2.1 q.2.2, w.before args s = true := fun w h => hsw.1.use (hw w h).1 (hw w h).2 _
  obtain ⟨-, hfs⟩ := rb_fl_at (G := G) (h := h) ho hci hc hk
  rw [hv] at hfs
  have hq2 : (rb_cw G h)[n]? = some (rb_ad G o 0, .inr (ci, rb_fl G h o)) := by rw [hq]; simp [rb_cl, hci]
  rcases hlk with hlk | ⟨host, hlk⟩
  · exact va_get hx hb hts (fun _ h => h) hown hsw.2.1 hP n hq2 hc kf hk (hsw.1.use hlk rfl _) (fun _ h => h) hfs d (kk H locs ls hP hS hl)
  · exact va_getN hx hb hts (fun _ h => h) hown hsw.2.1 hP n hq2 hc kf hk (hsw.1.use hlk rfl _) (fun _ h => h) hfs d (kk H locs ls hP hS hl)
/-- a field that may be written: not final, its type -/
def rb_FP (ci kf : Nat) (ty : FieldType) : Prop := ∃ q : vw_C, vwCl[ci]? = some q ∧ (q.2.1 kf).2.2.2 = false ∧ parseFieldDescriptor (q.2.1 kf).2.2.1 = some ty
theorem rb_put (X : rb_CX Z G cc nL own k) {o ci kf idx : Nat} {v : Int32} {ty : FieldType} (f : rb_FL own idx ci kf) (g : rb_FP ci kf ty) (ho : (o, 0) ∈ rb_ids) (hci : rb_ci o = ci) (h0 : (rb_fk o).getD kf 0 = 0) (hn : narrow ty (.int v) = .int v) (hft : fits ty (.int v) = true) (d : decode cc pc = .ok (.putfield idx, 3)) (kk : rb_WP Z G nL (pc + 3) L S (rb_u h o kf 0 v)) : rb_WP Z G nL pc L (.int v :: .ref (rb_ad G o 0) :: S) h := by
  obtain ⟨p, l, e, R, s, m, args, below, meth, c, A, cells, slots, Q⟩ := Z
  obtain ⟨hx, hb, hml, hown, hsw, hA, hA2, hf, hlo, hce, hso⟩ := X
  intro H locs ls hP hS hl
  obtain ⟨q, hc, hk, hlk⟩ := f
  obtain ⟨q', hc', hfin, hpd⟩ := g
  cases hc.symm.trans hc'
  obtain ⟨hw, ty0, hty, hnm⟩ := rb_cls ci q hc
  obtain ⟨n, hn1, hq⟩ := rb_at (G := G) (h := h) ho
  have hts : ∀ w ∈ u_ws q.1 q.2.1 q.2.2, w.before args s = true := fun w h => hsw.1.use (hw w h).1 (hw w h).2 _
  obtain ⟨hkl, hfs⟩ := rb_fl_at (G := G) (h := h) ho hci hc hk
  have hq2 : (rb_cw G h)[n]? = some (rb_ad G o 0, .inr (ci, rb_fl G h o)) := by rw [hq]; simp [rb_cl, hci]
  have hD : va_D A (rb_cw G h) := rb_D hsw.2.2.1 hA
  have hset : (rb_cw G h).set n (rb_ad G o 0, .inr (ci, (rb_fl G h o).set kf (.int v))) = rb_cw G (rb_u h o kf 0 v) := rb_set hn1 (by rw [rb_fld_cl hkl h0, hci]) (rb_fld_oth h0)
  rcases hlk with hlk | ⟨host, hlk⟩
  · exact va_put hx hb hts (fun _ h => h) ty0 hty hnm hown hsw.2.1 hP hD hS n hq2 hc kf hk (hsw.1.use hlk rfl _) (fun _ h => h) hfin hpd hn hft (List.getElem?_eq_some_iff.mp hfs).1 d (fun H1 locs1 hP1 _ hS1 => kk H1 locs1 ls (hset ▸ hP1) hS1 hl)
  · exact va_putN hx hb hts (fun _ h => h) ty0 hty hnm hown hsw.2.1 hP hD hS n hq2 hc kf hk (hsw.1.use hlk rfl _) (fun _ h => h) hfin hpd hn hft (List.getElem?_eq_some_iff.mp hfs).1 d (fun H1 locs1 hP1 _ hS1 => kk H1 locs1 ls (hset ▸ hP1) hS1 hl)
theorem rb_cl_i {o j n : Nat} (hs : rb_ak o j = (0, n)) : rb_cl G h o (j + 1) = .inl (G.2.1 0, n, .inl (h.1 o j)) := by simp [rb_cl, rb_ac, hs]
theorem rb_cl_l {o j n : Nat} (hs : rb_ak o j = (1, n)) : rb_cl G h o (j + 1) = .inl (G.2.1 1, n, .inr (.inl (h.2 o j))) := by simp [rb_cl, rb_ac, hs]
theorem rb_iald (X : rb_CX Z G cc nL own k) {o j n : Nat} {i : Int32} (q : Nat) (ho : (o, j + 1) ∈ rb_ids) (hs : rb_ak o j = (0, n)) (hi : i = nI q) (hq : q < n) (d : decode cc pc = .ok (.iaload, 1)) (kk : rb_WP Z G nL (pc + 1) L (.int (h.1 o j q) :: S) h) (hn : n < 2 ^ 31 := by decide) : rb_WP Z G nL pc L (.int i :: .ref (rb_ad G o (j + 1)) :: S) h := by
  obtain ⟨p, l, e, R, s, m, args, below, meth, c, A, cells, slots, Q⟩ := Z
  obtain ⟨hx, hb, hml, hown, hsw, hA, hA2, hf, hlo, hce, hso⟩ := X
  intro H locs ls hP hS hl
  subst hi
  obtain ⟨a, ha1, ha⟩ := rb_at (G := G) (h := h) ho
  rw [rb_cl_i hs] at ha
  exact va_iald hx hb hsw.2.1 hP a 0 ha rfl (vp_in_nI hq hn) d (by rw [nI_clamp (by omega)]; exact kk H locs ls hP hS hl)
theorem rb_iast (X : rb_CX Z G cc nL own k) {o j n : Nat} {i v : Int32} (q : Nat) (ho : (o, j + 1) ∈ rb_ids) (hs : rb_ak o j = (0, n)) (hi : i = nI q) (hq : q < n) (d : decode cc pc = .ok (.iastore, 1)) (kk : rb_WP Z G nL (pc + 1) L S (rb_u h o j q v)) (hn : n < 2 ^ 31 := by decide) : rb_WP Z G nL pc L (.int v :: .int i :: .ref (rb_ad G o (j + 1)) :: S) h := by
  obtain ⟨p, l, e, R, s, m, args, below, meth, c, A, cells, slots, Q⟩ := Z
  obtain ⟨hx, hb, hml, hown, hsw, hA, hA2, hf, hlo, hce, hso⟩ := X
  intro H locs ls hP hS hl
  subst hi
  obtain ⟨a, ha1, ha⟩ := rb_at (G := G) (h := h) ho
  rw [rb_cl_i hs] at ha
  have hset : (rb_cw G h).set a (rb_ad G o (j + 1), .inl (G.2.1 0, n, .inl (upd (h.1 o j) (nI q).toNatClampNeg v))) = rb_cw G (rb_u h o j q v) := rb_set ha1 (by rw [rb_u_row, rb_row_cl ho hs, nI_clamp (by omega)]; rfl) (rb_row_oth ho)
  exact va_iast hx hb hsw.2.1 hP (rb_D hsw.2.2.1 hA) hS a 0 ha rfl (vp_in_nI hq hn) d (fun H1 locs1 hP1 _ hS1 => kk H1 locs1 ls (hset ▸ hP1) hS1 hl)
theorem rb_lald (X : rb_CX Z G cc nL own k) {o j n : Nat} {i : Int32} (q : Nat) (ho : (o, j + 1) ∈ rb_ids) (hs : rb_ak o j = (1, n)) (hi : i = nI q) (hq : q < n) (d : decode cc pc = .ok (.laload, 1)) (kk : rb_WP Z G nL (pc + 1) L (.long (h.2 o j q) :: S) h) (hn : n < 2 ^ 31 := by decide) : rb_WP Z G nL pc L (.int i :: .ref (rb_ad G o (j + 1)) :: S) h := by
  obtain ⟨p, l, e, R, s, m, args, below, meth, c, A, cells, slots, Q⟩ := Z
  obtain ⟨hx, hb, hml, hown, hsw, hA, hA2, hf, hlo, hce, hso⟩ := X
  intro H locs ls hP hS hl
  subst hi
  obtain ⟨a, ha1, ha⟩ := rb_at (G := G) (h := h) ho
  rw [rb_cl_l hs] at ha
  exact va_lald hx hb hsw.2.1 hP a 1 ha rfl (vp_in_nI hq hn) d (by rw [nI_clamp (by omega)]; exact kk H locs ls hP hS hl)
theorem rb_last (X : rb_CX Z G cc nL own k) {o j n : Nat} {i : Int32} {v : Int64} (q : Nat) (ho : (o, j + 1) ∈ rb_ids) (hs : rb_ak o j = (1, n)) (hi : i = nI q) (hq : q < n) (d : decode cc pc = .ok (.lastore, 1)) (kk : rb_WP Z G nL (pc + 1) L S (rb_ul h o j q v)) (hn : n < 2 ^ 31 := by decide) : rb_WP Z G nL pc L (.long v :: .int i :: .ref (rb_ad G o (j + 1)) :: S) h := by
  obtain ⟨p, l, e, R, s, m, args, below, meth, c, A, cells, slots, Q⟩ := Z
  obtain ⟨hx, hb, hml, hown, hsw, hA, hA2, hf, hlo, hce, hso⟩ := X
  intro H locs ls hP hS hl
  subst hi
  obtain ⟨a, ha1, ha⟩ := rb_at (G := G) (h := h) ho
  rw [rb_cl_l hs] at ha
  have hset : (rb_cw G h).set a (rb_ad G o (j + 1), .inl (G.2.1 1, n, .inr (.inl (vp_updL (h.2 o j) (nI q).toNatClampNeg v)))) = rb_cw G (rb_ul h o j q v) := rb_set ha1 (by rw [rb_ul_row, rb_rowl_cl ho hs, nI_clamp (by omega)]; rfl) rb_rowl_oth
  exact va_last hx hb hsw.2.1 hP (rb_D hsw.2.2.1 hA) hS a 1 ha rfl (vp_in_nI hq hn) d (fun H1 locs1 hP1 _ hS1 => kk H1 locs1 ls (hset ▸ hP1) hS1 hl)
theorem rb_aald (X : rb_CX Z G cc nL own k) {i : Int32} (q : Nat) (hi : i = nI q) (hq : q < 4) (d : decode cc pc = .ok (.aaload, 1)) (kk : rb_WP Z G nL (pc + 1) L (.ref (rb_ad G (4 + q) 0) :: S) h) : rb_WP Z G nL pc L (.int i :: .ref (rb_ad G 8 6) :: S) h := by
  obtain ⟨p, l, e, R, s, m, args, below, meth, c, A, cells, slots, Q⟩ := Z
  obtain ⟨hx, hb, hml, hown, hsw, hA, hA2, hf, hlo, hce, hso⟩ := X
  intro H locs ls hP hS hl
  subst hi
  obtain ⟨a, ha1, ha⟩ := rb_at (G := G) (h := h) (o := 8) (j := 6) (by decide)
  have hc : rb_cl G h 8 6 = .inl (G.2.1 2, 4, .inr (.inr (.inr (.inr (fun i => some (rb_ad G (4 + i) 0)))))) := by simp [rb_cl, rb_ac, rb_ak]
  rw [hc] at ha
  exact va_aldq hx hb hsw.2.1 hP a 2 ha rfl (vp_in_nI hq (by decide)) d (by rw [nI_clamp (by omega)]; exact kk H locs ls hP hS hl)
theorem rb_alen (X : rb_CX Z G cc nL own k) {o j n : Nat} (ho : (o, j + 1) ∈ rb_ids) (hs : rb_ak o j = (0, n)) (d : decode cc pc = .ok (.arraylength, 1)) (kk : rb_WP Z G nL (pc + 1) L (.int (nI n) :: S) h) : rb_WP Z G nL pc L (.ref (rb_ad G o (j + 1)) :: S) h := by
  obtain ⟨p, l, e, R, s, m, args, below, meth, c, A, cells, slots, Q⟩ := Z
  obtain ⟨hx, hb, hml, hown, hsw, hA, hA2, hf, hlo, hce, hso⟩ := X
  intro H locs ls hP hS hl
  obtain ⟨a, ha1, ha⟩ := rb_at (G := G) (h := h) ho
  rw [rb_cl_i hs] at ha
  exact va_alen hx hb hsw.2.1 hP a 0 ha rfl rfl d (kk H locs ls hP hS hl)
/-- two heaps that hold the same cells -/
theorem rb_cong {h' : rb_H} (he : ∀ o j, (o, j) ∈ rb_ids → ∀ (G : rb_G) (a : Nat) (H : Heap), va_at G.1 vwCl (a, rb_cl G h o j) H → va_at G.1 vwCl (a, rb_cl G h' o j) H) (kk : rb_WP Z G nL pc L S h') : rb_WP Z G nL pc L S h := by
  obtain ⟨p, l, e, R, s, m, args, below, meth, c, A, cells, slots, Q⟩ := Z
  intro H locs ls hP hS hl
  refine kk H locs ls (fun i q hq => ?_) hS hl
  simp only [rb_cw, List.getElem?_map, Option.map_eq_some_iff] at hq
  obtain ⟨⟨o, j⟩, h1, h2⟩ := hq
  subst h2
  exact he o j (List.mem_of_getElem? h1) G _ H (hP i _ (by simp [rb_cw, h1]))
theorem rb_arrV {c : ClassId} {n : Nat} {f g : Nat → Value} (hfg : ∀ i, i < n → f i = g i) : arrV c n f = arrV c n g := by
  unfold arrV
  congr 2
  funext i
  exact hfg i.1 i.2
/-- a row may be told by its places alone -/
theorem rb_rowC {o j n : Nat} {f g : Nat → Int32} (ho : (o, j + 1) ∈ rb_ids) (hs : rb_ak o j = (0, n)) (hfg : ∀ i, i < n → f i = g i) (kk : rb_WP Z G nL pc L S (rb_row h o j g)) : rb_WP Z G nL pc L S (rb_row h o j f) := by
  refine rb_cong (fun o' j' hm G a H hc => ?_) kk
  by_cases he : (o', j') = (o, j + 1)
  · cases he
    rw [rb_row_cl ho hs] at hc ⊢
    show H[a]? = some (vp_cell _ _)
    have h1 : H[a]? = some (vp_cell (G.2.1 0) (n, .inl f)) := hc
    rw [h1, vp_cell_i, vp_cell_i, rb_arrV (fun i hi => by rw [hfg i hi])]
  · rw [rb_row_oth ho o' j' hm he] at hc ⊢
    exact hc
theorem rb_rowlC {o j n : Nat} {f g : Nat → Int64} (ho : (o, j + 1) ∈ rb_ids) (hs : rb_ak o j = (1, n)) (hfg : ∀ i, i < n → f i = g i) (kk : rb_WP Z G nL pc L S (rb_rowl h o j g)) : rb_WP Z G nL pc L S (rb_rowl h o j f) := by
  refine rb_cong (fun o' j' hm G a H hc => ?_) kk
  by_cases he : (o', j') = (o, j + 1)
  · cases he
    rw [rb_rowl_cl ho hs] at hc ⊢
    show H[a]? = some (vp_cell _ _)
    have h1 : H[a]? = some (vp_cell (G.2.1 1) (n, .inr (.inl f))) := hc
    rw [h1, vp_cell_l, vp_cell_l, rb_arrV (fun i hi => by rw [hfg i hi])]
  · rw [rb_rowl_oth o' j' hm he] at hc ⊢
    exact hc
/-! calls -/
def rb_cV (y : MethodName) (bytes : ByteArray) (maxL : Nat) (ret : Option FieldType) (n : Nat) : Prop := Cond.instanceMethod y ∈ lw_tbl ∧ Cond.selects y.cls y y ∈ lw_tbl ∧ Cond.initialized y.cls ∈ lw_tbl ∧ Cond.code y bytes maxL ret ∈ lw_tbl ∧ (y.cls ≠ "java/lang/invoke/MethodHandle" ∧ y.cls ≠ "java/lang/invoke/VarHandle" ∧ (parseMethodDescriptor y.desc).map (fun d => d.parameters.length) = some n) ∧ maxL ≤ 25
def rb_cS (y : MethodName) (bytes : ByteArray) (maxL : Nat) (ret : Option FieldType) (n : Nat) : Prop := Cond.static y ∈ lw_tbl ∧ Cond.initialized y.cls ∈ lw_tbl ∧ Cond.code y bytes maxL ret ∈ lw_tbl ∧ (y.cls ≠ "java/lang/invoke/MethodHandle" ∧ y.cls ≠ "java/lang/invoke/VarHandle" ∧ (parseMethodDescriptor y.desc).map (fun d => d.parameters.length) = some n) ∧ maxL ≤ 25
def rb_cn (o : Nat) : String := if o < 3 then RX3 else if o = 3 then RX2 else if o < 8 then RX1 else if o = 8 then RX4 else RX5
theorem rb_cnO : ∀ q ∈ rb_ids, q.2 = 0 → (vwCl[rb_ci q.1]?).map (fun x => x.1) = some (rb_cn q.1) := by decide
theorem rb_CB {p : Program} {l : Launch} {e : Env} {R : Room} {s : State} {m : MethodId} {args : Array Value} {y : MethodName} {bytes : ByteArray} {maxL n kc idx : Nat} {ret : Option FieldType} (ht : rb_tb s) (h3 : Cond.initialized y.cls ∈ lw_tbl) (h4 : Cond.code y bytes maxL ret ∈ lw_tbl) (h5 : y.cls ≠ "java/lang/invoke/MethodHandle" ∧ y.cls ≠ "java/lang/invoke/VarHandle" ∧ (parseMethodDescriptor y.desc).map (fun d => d.parameters.length) = some n) (h6 : maxL ≤ 25) (lk : Cond.methodLink own idx y ∈ lw_tbl) (hkc : kc < k) (hf : k ≤ R.frames) (hlo : 44 * k ≤ R.locals) : CallB R s args own idx y bytes maxL ret [Cond.code y bytes maxL ret] (rb_rm kc) 0 0 n := by
  refine ⟨rfl, rfl, ?_, ?_, ?_, List.mem_cons_self, ht.use h4 rfl _, ht.use h3 rfl _, ⟨h5.1, h5.2.1⟩, fun sig hs => ?_, ht.use lk rfl _⟩
  · show kc + 1 ≤ R.frames; omega
  · show 8 + (maxL + 11) + 44 * kc ≤ R.locals; omega
  · intro w hw a' U hW
    rw [List.mem_singleton.mp hw]
    exact word_at hW (Or.inl rfl) (ht.use h4 rfl #[])
  · have h2 := h5.2.2
    rw [hs] at h2
    exact (Option.some.inj h2).symm
theorem rb_swH {A : Nat → Prop} {s : State} {H : Heap} {locs : List Loc} (hsw : rb_sw G s s.heap) (hA2 : ∀ a, a < s.heap.size → A a → rb_AD G a) (hS : va_S A s.heap H locs) : rb_sw G s H := hsw.kept (fun a h1 h2 => hS.2.1 a h1 (fun z => h2 (hA2 a h1 z)))
theorem rb_cont {p : Program} {l : Launch} {e : Env} {R : Room} {s : State} {m : MethodId} {args : Array Value} {below : List Frame} {meth : Method} {c : Code} {A : Nat → Prop} {cells slots : Nat} {Q : State → Prop} {H : Heap} {locs : List Loc} {ls : Array Slot} {S0 : List Value} {a : Array Value} {post : Option Value → rb_H → Prop} (hr : va_Run p l e R s m args below meth c H locs cells slots 0 0 (F0 m pc ls S0) S (rb_post G post a) (rb_AD G)) (hA : ∀ a, rb_AD G a → A a) (hS : va_S A s.heap H locs) (hl : rb_HL ls nL L)
    (kk : ∀ (r : Option Value) (h' : rb_H), post r h' → rb_WP (p, l, e, R, s, m, args, below, meth, c, A, cells, slots, Q) G nL (pc + 3) L (r.toList ++ S) h') : W p l e R s m args below meth c H locs cells slots Q (F0 m pc ls S0) := by
  intro T hT X
  obtain ⟨v, st₀, t, T', L1, h0, X', hL1, e1, e2, ⟨⟨r, h', hv, hp, hP'⟩, hz, hk⟩, st⟩ := hr T hT X
  cases hv
  rw [h0] at hz hk
  have hS' : va_S A s.heap T'.heap (locs ++ L1) := by
    refine ⟨Nat.le_trans hS.1 (by rw [e1]; exact hz), fun q h1 h2 => ?_, fun q hq => ?_⟩
    · rw [e1, hk q (Nat.lt_of_lt_of_le h1 hS.1) (fun z => h2 (hA q z))]
      exact hS.2.1 q h1 h2
    · rcases List.mem_append.mp hq with h | h
      · exact hS.2.2 q h
      · exact hA _ (hL1 q h)
  obtain ⟨t2, a1, b1⟩ := kk _ h' hp T'.heap (locs ++ L1) ls (by rw [e1]; exact hP') hS' hl T' rfl X'
  exact ⟨t2, st t2 a1, b1⟩
theorem rb_callV (X : rb_CX Z G cc nL own k) {y : MethodName} {bytes : ByteArray} {maxL n kc idx o : Nat} {ret : Option FieldType} {As S0 : List Value} {post : Option Value → rb_H → Prop} (c : rb_cV y bytes maxL ret n) (lk : Cond.methodLink own idx y ∈ lw_tbl) (hM : rb_M G kc y bytes maxL ret (.ref (rb_ad G o 0) :: As) h post) (hkc : kc < k) (ho : (o, 0) ∈ rb_ids) (hoc : rb_cn o = y.cls) (hn : As.length = n) (h0 : S0 = As.reverse ++ .ref (rb_ad G o 0) :: S) (hcat : (S.map fun v => v.category).sum ≤ 8) (d : decode cc pc = .ok (.invokevirtual idx, 3)) (kk : ∀ (r : Option Value) (h' : rb_H), post r h' → rb_WP Z G nL (pc + 3) L (r.toList ++ S) h') : rb_WP Z G nL pc L S0 h := by
  obtain ⟨p, l, e, R, s, m, args, below, meth, cd, A, cells, slots, Q⟩ := Z
  obtain ⟨hx, hb, hml, hown, hsw, hA, hA2, hf, hlo, hce, hso⟩ := X
  obtain ⟨c1, c2, c3, c4, c5, c6⟩ := c
  intro H locs ls hP hS hl
  subst h0
  obtain ⟨a, ha1, ha⟩ := rb_at (G := G) (h := h) ho
  have hci := rb_cnO _ ho rfl
  obtain ⟨q, hq1, hq2⟩ := Option.map_eq_some_iff.mp hci
  refine rb_cont (va_runV (Ts := []) (C := y.cls) ⟨hx, hb, hml, hown, fun _ h => absurd h List.not_mem_nil⟩ (hM l) ⟨rb_CB (l := l) (e := e) (p := p) (m := m) hsw.1 c3 c4 c5 c6 lk hkc hf hlo, hsw.1.use c1 rfl _, hsw.1.use c2 rfl _⟩ ⟨rb_blind, ?_, fun U hU hW => ⟨rfl, by rw [hU]; exact hP, by rw [hU]; exact (rb_swH hsw hA2 hS).warm hW⟩⟩ rfl hn hl.1 rfl (lv_room hcat) d ⟨by omega, by omega⟩) hA hS hl kk
  obtain ⟨cell, g1, g2, g3⟩ := va_recv hsw.2.1 hP hq1 ha
  exact ⟨cell, g1, g2, by rw [← hoc]; simp only at hq2; rw [← hq2]; exact g3⟩
theorem rb_callT (X : rb_CX Z G cc nL own k) {y : MethodName} {bytes : ByteArray} {maxL n kc idx i : Nat} {ret : Option FieldType} {As S0 : List Value} {post : Option Value → rb_H → Prop} (c : rb_cV y bytes maxL ret n) (lk : Cond.methodLink own idx y ∈ lw_tbl) (hM : rb_M G kc y bytes maxL ret (.ref (G.2.2.2.1 i) :: As) h post) (hkc : kc < k) (ho : i < 14) (hoc : y.cls = "java/lang/String") (hn : As.length = n) (h0 : S0 = As.reverse ++ .ref (G.2.2.2.1 i) :: S) (hcat : (S.map fun v => v.category).sum ≤ 8) (d : decode cc pc = .ok (.invokevirtual idx, 3)) (kk : ∀ (r : Option Value) (h' : rb_H), post r h' → rb_WP Z G nL (pc + 3) L (r.toList ++ S) h') : rb_WP Z G nL pc L S0 h := by
  obtain ⟨p, l, e, R, s, m, args, below, meth, cd, A, cells, slots, Q⟩ := Z
  obtain ⟨hx, hb, hml, hown, hsw, hA, hA2, hf, hlo, hce, hso⟩ := X
  obtain ⟨c1, c2, c3, c4, c5, c6⟩ := c
  intro H locs ls hP hS hl
  subst h0
  refine rb_cont (va_runV (Ts := []) (C := y.cls) ⟨hx, hb, hml, hown, fun _ h => absurd h List.not_mem_nil⟩ (hM l) ⟨rb_CB (l := l) (e := e) (p := p) (m := m) hsw.1 c3 c4 c5 c6 lk hkc hf hlo, hsw.1.use c1 rfl _, hsw.1.use c2 rfl _⟩ ⟨rb_blind, ?_, fun U hU hW => ⟨rfl, by rw [hU]; exact hP, by rw [hU]; exact (rb_swH hsw hA2 hS).warm hW⟩⟩ rfl hn hl.1 rfl (lv_room hcat) d ⟨by omega, by omega⟩) hA hS hl kk
  obtain ⟨cell, g1, g2, g3, -⟩ := ((rb_swH hsw hA2 hS).2.2.2.1.1 i ho).1
  exact ⟨cell, g1, g2, by rw [hoc]; exact g3⟩
theorem rb_callS (X : rb_CX Z G cc nL own k) {y : MethodName} {bytes : ByteArray} {maxL n kc idx : Nat} {ret : Option FieldType} {As S0 : List Value} {post : Option Value → rb_H → Prop} (c : rb_cS y bytes maxL ret n) (lk : Cond.methodLink own idx y ∈ lw_tbl) (hM : rb_M G kc y bytes maxL ret As h post) (hkc : kc < k) (hn : As.length = n) (h0 : S0 = As.reverse ++ S) (hcat : (S.map fun v => v.category).sum ≤ 8) (d : decode cc pc = .ok (.invokestatic idx, 3)) (kk : ∀ (r : Option Value) (h' : rb_H), post r h' → rb_WP Z G nL (pc + 3) L (r.toList ++ S) h') : rb_WP Z G nL pc L S0 h := by
  obtain ⟨p, l, e, R, s, m, args, below, meth, cd, A, cells, slots, Q⟩ := Z
  obtain ⟨hx, hb, hml, hown, hsw, hA, hA2, hf, hlo, hce, hso⟩ := X
  obtain ⟨c1, c3, c4, c5, c6⟩ := c
  intro H locs ls hP hS hl
  subst h0
  exact rb_cont (va_runS (Ts := []) ⟨hx, hb, hml, hown, fun _ h => absurd h List.not_mem_nil⟩ (hM l) ⟨rb_CB (l := l) (e := e) (p := p) (m := m) hsw.1 c3 c4 c5 c6 lk hkc hf hlo, hsw.1.use c1 rfl _⟩ ⟨rb_blind, fun U hU hW => ⟨rfl, by rw [hU]; exact hP, by rw [hU]; exact (rb_swH hsw hA2 hS).warm hW⟩⟩ rfl hn hl.1 rfl (lv_room hcat) d ⟨by omega, by omega⟩) hA hS hl kk
end RB
end
section
theorem wI_L : Cond.initialized RL ∈ lw_tbl := List.mem_of_getElem? (i := 68) (by decide +kernel)
theorem wI_X4 : Cond.initialized RX4 ∈ lw_tbl := List.mem_of_getElem? (i := 69) (by decide +kernel)
theorem wI_X3 : Cond.initialized RX3 ∈ lw_tbl := List.mem_of_getElem? (i := 70) (by decide +kernel)
theorem wI_X2 : Cond.initialized RX2 ∈ lw_tbl := List.mem_of_getElem? (i := 71) (by decide +kernel)
theorem wI_X1 : Cond.initialized RX1 ∈ lw_tbl := List.mem_of_getElem? (i := 72) (by decide +kernel)
theorem wI_X5 : Cond.initialized RX5 ∈ lw_tbl := List.mem_of_getElem? (i := 73) (by decide +kernel)
theorem wI_X0 : Cond.initialized RX0 ∈ lw_tbl := List.mem_of_getElem? (i := 74) (by decide +kernel)
theorem wI_J9 : Cond.initialized RJ9 ∈ lw_tbl := List.mem_of_getElem? (i := 75) (by decide +kernel)
theorem wI_J10 : Cond.initialized RJ10 ∈ lw_tbl := List.mem_of_getElem? (i := 76) (by decide +kernel)
theorem wI_J0 : Cond.initialized RJ0 ∈ lw_tbl := List.mem_of_getElem? (i := 77) (by decide +kernel)
theorem wI_J1 : Cond.initialized RJ1 ∈ lw_tbl := List.mem_of_getElem? (i := 78) (by decide +kernel)
theorem wI_J2 : Cond.initialized RJ2 ∈ lw_tbl := List.mem_of_getElem? (i := 80) (by decide +kernel)
theorem cvX0_isUnder : rb_cS yX0_isUnder cX0_isUnder 4 (some .boolean) 2 := ⟨List.mem_of_getElem? (i := 321) (by decide +kernel), wI_X0, List.mem_of_getElem? (i := 322) (by decide +kernel), by decide +kernel, by decide⟩
theorem cvX0_eats : rb_cS yX0_eats cX0_eats 6 (some .int) 3 := ⟨List.mem_of_getElem? (i := 257) (by decide +kernel), wI_X0, List.mem_of_getElem? (i := 258) (by decide +kernel), by decide +kernel, by decide⟩
theorem cvX0_needs : rb_cS yX0_needs cX0_needs 5 (some .int) 2 := ⟨List.mem_of_getElem? (i := 296) (by decide +kernel), wI_X0, List.mem_of_getElem? (i := 297) (by decide +kernel), by decide +kernel, by decide⟩
theorem cvX0_grows : rb_cS yX0_grows cX0_grows 4 (some .int) 3 := ⟨List.mem_of_getElem? (i := 303) (by decide +kernel), wI_X0, List.mem_of_getElem? (i := 304) (by decide +kernel), by decide +kernel, by decide⟩
theorem cvX0_nameOf : rb_cS yX0_nameOf cX0_nameOf 1 (some (.object "java/lang/String")) 1 := ⟨List.mem_of_getElem? (i := 608) (by decide +kernel), wI_X0, List.mem_of_getElem? (i := 609) (by decide +kernel), by decide +kernel, by decide⟩
theorem cvX1_isMissing : rb_cV yX1_isMissing cX1_isMissing 1 (some .boolean) 0 := ⟨List.mem_of_getElem? (i := 649) (by decide +kernel), List.mem_of_getElem? (i := 650) (by decide +kernel), wI_X1, List.mem_of_getElem? (i := 651) (by decide +kernel), by decide +kernel, by decide⟩
theorem cvX1_begin : rb_cV yX1_begin cX1_begin 4 none 2 := ⟨List.mem_of_getElem? (i := 641) (by decide +kernel), List.mem_of_getElem? (i := 642) (by decide +kernel), wI_X1, List.mem_of_getElem? (i := 643) (by decide +kernel), by decide +kernel, by decide⟩
theorem cvX1_put : rb_cV yX1_put cX1_put 4 none 2 := ⟨List.mem_of_getElem? (i := 654) (by decide +kernel), List.mem_of_getElem? (i := 655) (by decide +kernel), wI_X1, List.mem_of_getElem? (i := 656) (by decide +kernel), by decide +kernel, by decide⟩
theorem cvX1_hasRange : rb_cV yX1_hasRange cX1_hasRange 3 (some .boolean) 2 := ⟨List.mem_of_getElem? (i := 662) (by decide +kernel), List.mem_of_getElem? (i := 663) (by decide +kernel), wI_X1, List.mem_of_getElem? (i := 664) (by decide +kernel), by decide +kernel, by decide⟩
theorem cvX2_addByte : rb_cV yX2_addByte cX2_addByte 2 none 1 := ⟨List.mem_of_getElem? (i := 502) (by decide +kernel), List.mem_of_getElem? (i := 503) (by decide +kernel), wI_X2, List.mem_of_getElem? (i := 504) (by decide +kernel), by decide +kernel, by decide⟩
theorem cvX2_tellTo : rb_cV yX2_tellTo cX2_tellTo 3 (some .int) 1 := ⟨List.mem_of_getElem? (i := 514) (by decide +kernel), List.mem_of_getElem? (i := 515) (by decide +kernel), wI_X2, List.mem_of_getElem? (i := 516) (by decide +kernel), by decide +kernel, by decide⟩
theorem cvX2_tellItem : rb_cV yX2_tellItem cX2_tellItem 3 (some .boolean) 1 := ⟨List.mem_of_getElem? (i := 527) (by decide +kernel), List.mem_of_getElem? (i := 7) (by decide +kernel), wI_X2, List.mem_of_getElem? (i := 528) (by decide +kernel), by decide +kernel, by decide⟩
theorem cvX2_tellHouse : rb_cV yX2_tellHouse cX2_tellHouse 3 (some .boolean) 1 := ⟨List.mem_of_getElem? (i := 584) (by decide +kernel), List.mem_of_getElem? (i := 9) (by decide +kernel), wI_X2, List.mem_of_getElem? (i := 585) (by decide +kernel), by decide +kernel, by decide⟩
theorem cvX2_tellTrue : rb_cV yX2_tellTrue cX2_tellTrue 3 (some .boolean) 1 := ⟨List.mem_of_getElem? (i := 604) (by decide +kernel), List.mem_of_getElem? (i := 13) (by decide +kernel), wI_X2, List.mem_of_getElem? (i := 605) (by decide +kernel), by decide +kernel, by decide⟩
theorem cvX2_tellRumour : rb_cV yX2_tellRumour cX2_tellRumour 5 (some .boolean) 2 := ⟨List.mem_of_getElem? (i := 618) (by decide +kernel), List.mem_of_getElem? (i := 14) (by decide +kernel), wI_X2, List.mem_of_getElem? (i := 619) (by decide +kernel), by decide +kernel, by decide⟩
theorem cvX2_tellPart : rb_cV yX2_tellPart cX2_tellPart 5 (some .boolean) 4 := ⟨List.mem_of_getElem? (i := 597) (by decide +kernel), List.mem_of_getElem? (i := 12) (by decide +kernel), wI_X2, List.mem_of_getElem? (i := 598) (by decide +kernel), by decide +kernel, by decide⟩
theorem cvX2_tellLodging : rb_cV yX2_tellLodging cX2_tellLodging 3 (some .boolean) 2 := ⟨List.mem_of_getElem? (i := 626) (by decide +kernel), List.mem_of_getElem? (i := 15) (by decide +kernel), wI_X2, List.mem_of_getElem? (i := 627) (by decide +kernel), by decide +kernel, by decide⟩
theorem cvX2_passNumber : rb_cV yX2_passNumber cX2_passNumber 3 (some .int) 1 := ⟨List.mem_of_getElem? (i := 588) (by decide +kernel), List.mem_of_getElem? (i := 10) (by decide +kernel), wI_X2, List.mem_of_getElem? (i := 589) (by decide +kernel), by decide +kernel, by decide⟩
theorem cvX2_isNumber : rb_cV yX2_isNumber cX2_isNumber 2 (some .boolean) 1 := ⟨List.mem_of_getElem? (i := 592) (by decide +kernel), List.mem_of_getElem? (i := 11) (by decide +kernel), wI_X2, List.mem_of_getElem? (i := 593) (by decide +kernel), by decide +kernel, by decide⟩
theorem cvX2_isWord : rb_cV yX2_isWord cX2_isWord 3 (some .boolean) 1 := ⟨List.mem_of_getElem? (i := 532) (by decide +kernel), List.mem_of_getElem? (i := 8) (by decide +kernel), wI_X2, List.mem_of_getElem? (i := 533) (by decide +kernel), by decide +kernel, by decide⟩
theorem cvX2_nextToken : rb_cV yX2_nextToken cX2_nextToken 2 none 0 := ⟨List.mem_of_getElem? (i := 519) (by decide +kernel), List.mem_of_getElem? (i := 6) (by decide +kernel), wI_X2, List.mem_of_getElem? (i := 520) (by decide +kernel), by decide +kernel, by decide⟩
theorem cvX2_sortOf : rb_cS yX2_sortOf cX2_sortOf 1 (some .int) 1 := ⟨List.mem_of_getElem? (i := 522) (by decide +kernel), wI_X2, List.mem_of_getElem? (i := 523) (by decide +kernel), by decide +kernel, by decide⟩
theorem cvX3_becomes : rb_cV yX3_becomes cX3_becomes 2 none 1 := ⟨List.mem_of_getElem? (i := 439) (by decide +kernel), List.mem_of_getElem? (i := 440) (by decide +kernel), wI_X3, List.mem_of_getElem? (i := 441) (by decide +kernel), by decide +kernel, by decide⟩
theorem cvX3_isFull : rb_cV yX3_isFull cX3_isFull 1 (some .boolean) 0 := ⟨List.mem_of_getElem? (i := 273) (by decide +kernel), List.mem_of_getElem? (i := 274) (by decide +kernel), wI_X3, List.mem_of_getElem? (i := 275) (by decide +kernel), by decide +kernel, by decide⟩
theorem cvX3_addOne : rb_cV yX3_addOne cX3_addOne 5 (some .int) 3 := ⟨List.mem_of_getElem? (i := 278) (by decide +kernel), List.mem_of_getElem? (i := 279) (by decide +kernel), wI_X3, List.mem_of_getElem? (i := 280) (by decide +kernel), by decide +kernel, by decide⟩
theorem cvX3_eatsOf : rb_cV yX3_eatsOf cX3_eatsOf 2 (some .int) 1 := ⟨List.mem_of_getElem? (i := 253) (by decide +kernel), List.mem_of_getElem? (i := 254) (by decide +kernel), wI_X3, List.mem_of_getElem? (i := 255) (by decide +kernel), by decide +kernel, by decide⟩
theorem cvX3_needsOf : rb_cV yX3_needsOf cX3_needsOf 2 (some .int) 1 := ⟨List.mem_of_getElem? (i := 292) (by decide +kernel), List.mem_of_getElem? (i := 293) (by decide +kernel), wI_X3, List.mem_of_getElem? (i := 294) (by decide +kernel), by decide +kernel, by decide⟩
theorem cvX3_growsOf : rb_cV yX3_growsOf cX3_growsOf 2 (some .int) 1 := ⟨List.mem_of_getElem? (i := 299) (by decide +kernel), List.mem_of_getElem? (i := 300) (by decide +kernel), wI_X3, List.mem_of_getElem? (i := 301) (by decide +kernel), by decide +kernel, by decide⟩
theorem cvX3_isTrue : rb_cV yX3_isTrue cX3_isTrue 2 (some .boolean) 1 := ⟨List.mem_of_getElem? (i := 343) (by decide +kernel), List.mem_of_getElem? (i := 344) (by decide +kernel), wI_X3, List.mem_of_getElem? (i := 345) (by decide +kernel), by decide +kernel, by decide⟩
theorem cvX3_hasBedFree : rb_cV yX3_hasBedFree cX3_hasBedFree 2 (some .boolean) 1 := ⟨List.mem_of_getElem? (i := 335) (by decide +kernel), List.mem_of_getElem? (i := 336) (by decide +kernel), wI_X3, List.mem_of_getElem? (i := 337) (by decide +kernel), by decide +kernel, by decide⟩
theorem cvX3_wouldTake : rb_cV yX3_wouldTake cX3_wouldTake 3 (some .boolean) 2 := ⟨List.mem_of_getElem? (i := 331) (by decide +kernel), List.mem_of_getElem? (i := 332) (by decide +kernel), wI_X3, List.mem_of_getElem? (i := 333) (by decide +kernel), by decide +kernel, by decide⟩
theorem cvX3_hostFor : rb_cV yX3_hostFor cX3_hostFor 5 (some .int) 1 := ⟨List.mem_of_getElem? (i := 348) (by decide +kernel), List.mem_of_getElem? (i := 349) (by decide +kernel), wI_X3, List.mem_of_getElem? (i := 350) (by decide +kernel), by decide +kernel, by decide⟩
theorem cvX3_lodge : rb_cV yX3_lodge cX3_lodge 4 none 2 := ⟨List.mem_of_getElem? (i := 355) (by decide +kernel), List.mem_of_getElem? (i := 356) (by decide +kernel), wI_X3, List.mem_of_getElem? (i := 357) (by decide +kernel), by decide +kernel, by decide⟩
theorem cvX3_improveBy : rb_cV yX3_improveBy cX3_improveBy 7 none 2 := ⟨List.mem_of_getElem? (i := 363) (by decide +kernel), List.mem_of_getElem? (i := 364) (by decide +kernel), wI_X3, List.mem_of_getElem? (i := 365) (by decide +kernel), by decide +kernel, by decide⟩
theorem cvX3_becomeTrue : rb_cV yX3_becomeTrue cX3_becomeTrue 4 (some .int) 1 := ⟨List.mem_of_getElem? (i := 375) (by decide +kernel), List.mem_of_getElem? (i := 376) (by decide +kernel), wI_X3, List.mem_of_getElem? (i := 377) (by decide +kernel), by decide +kernel, by decide⟩
theorem cvX3_passDays : rb_cV yX3_passDays cX3_passDays 3 none 1 := ⟨List.mem_of_getElem? (i := 387) (by decide +kernel), List.mem_of_getElem? (i := 388) (by decide +kernel), wI_X3, List.mem_of_getElem? (i := 389) (by decide +kernel), by decide +kernel, by decide⟩
theorem cvX3_passDay : rb_cV yX3_passDay cX3_passDay 2 none 0 := ⟨List.mem_of_getElem? (i := 391) (by decide +kernel), List.mem_of_getElem? (i := 392) (by decide +kernel), wI_X3, List.mem_of_getElem? (i := 393) (by decide +kernel), by decide +kernel, by decide⟩
theorem cvX3_feedOne : rb_cV yX3_feedOne cX3_feedOne 4 none 1 := ⟨List.mem_of_getElem? (i := 396) (by decide +kernel), List.mem_of_getElem? (i := 2) (by decide +kernel), wI_X3, List.mem_of_getElem? (i := 397) (by decide +kernel), by decide +kernel, by decide⟩
theorem cvX3_makeThird : rb_cV yX3_makeThird cX3_makeThird 6 none 1 := ⟨List.mem_of_getElem? (i := 401) (by decide +kernel), List.mem_of_getElem? (i := 3) (by decide +kernel), wI_X3, List.mem_of_getElem? (i := 402) (by decide +kernel), by decide +kernel, by decide⟩
theorem cvX3_pairedEvent : rb_cV yX3_pairedEvent cX3_pairedEvent 6 (some .int) 1 := ⟨List.mem_of_getElem? (i := 405) (by decide +kernel), List.mem_of_getElem? (i := 4) (by decide +kernel), wI_X3, List.mem_of_getElem? (i := 406) (by decide +kernel), by decide +kernel, by decide⟩
theorem cvX3_isOnRoad : rb_cV yX3_isOnRoad cX3_isOnRoad 3 (some .boolean) 1 := ⟨List.mem_of_getElem? (i := 409) (by decide +kernel), List.mem_of_getElem? (i := 5) (by decide +kernel), wI_X3, List.mem_of_getElem? (i := 410) (by decide +kernel), by decide +kernel, by decide⟩
theorem cvX3_thoseIn : rb_cV yX3_thoseIn cX3_thoseIn 4 (some .int) 1 := ⟨List.mem_of_getElem? (i := 241) (by decide +kernel), List.mem_of_getElem? (i := 242) (by decide +kernel), wI_X3, List.mem_of_getElem? (i := 243) (by decide +kernel), by decide +kernel, by decide⟩
theorem cvX3_eventsIn : rb_cV yX3_eventsIn cX3_eventsIn 4 (some .int) 1 := ⟨List.mem_of_getElem? (i := 245) (by decide +kernel), List.mem_of_getElem? (i := 246) (by decide +kernel), wI_X3, List.mem_of_getElem? (i := 247) (by decide +kernel), by decide +kernel, by decide⟩
theorem cvX3_eatenIn : rb_cV yX3_eatenIn cX3_eatenIn 4 (some .int) 1 := ⟨List.mem_of_getElem? (i := 249) (by decide +kernel), List.mem_of_getElem? (i := 250) (by decide +kernel), wI_X3, List.mem_of_getElem? (i := 251) (by decide +kernel), by decide +kernel, by decide⟩
theorem cvX3_eatenInAll : rb_cV yX3_eatenInAll cX3_eatenInAll 3 (some .int) 0 := ⟨List.mem_of_getElem? (i := 430) (by decide +kernel), List.mem_of_getElem? (i := 431) (by decide +kernel), wI_X3, List.mem_of_getElem? (i := 432) (by decide +kernel), by decide +kernel, by decide⟩
theorem cvX3_bulkOfAll : rb_cV yX3_bulkOfAll cX3_bulkOfAll 3 (some .int) 0 := ⟨List.mem_of_getElem? (i := 418) (by decide +kernel), List.mem_of_getElem? (i := 419) (by decide +kernel), wI_X3, List.mem_of_getElem? (i := 420) (by decide +kernel), by decide +kernel, by decide⟩
theorem cvX3_freeBeds : rb_cV yX3_freeBeds cX3_freeBeds 3 (some .int) 0 := ⟨List.mem_of_getElem? (i := 425) (by decide +kernel), List.mem_of_getElem? (i := 426) (by decide +kernel), wI_X3, List.mem_of_getElem? (i := 427) (by decide +kernel), by decide +kernel, by decide⟩
theorem cvX4_house : rb_cV yX4_house cX4_house 6 (some .int) 3 := ⟨List.mem_of_getElem? (i := 219) (by decide +kernel), List.mem_of_getElem? (i := 220) (by decide +kernel), wI_X4, List.mem_of_getElem? (i := 221) (by decide +kernel), by decide +kernel, by decide⟩
theorem cvX4_houseOf : rb_cV yX4_houseOf cX4_houseOf 3 (some .int) 2 := ⟨List.mem_of_getElem? (i := 237) (by decide +kernel), List.mem_of_getElem? (i := 238) (by decide +kernel), wI_X4, List.mem_of_getElem? (i := 239) (by decide +kernel), by decide +kernel, by decide⟩
theorem cvX4_rumour : rb_cV yX4_rumour cX4_rumour 3 (some .int) 2 := ⟨List.mem_of_getElem? (i := 263) (by decide +kernel), List.mem_of_getElem? (i := 264) (by decide +kernel), wI_X4, List.mem_of_getElem? (i := 265) (by decide +kernel), by decide +kernel, by decide⟩
theorem cvX4_of : rb_cV yX4_of cX4_of 3 (some .int) 2 := ⟨List.mem_of_getElem? (i := 283) (by decide +kernel), List.mem_of_getElem? (i := 284) (by decide +kernel), wI_X4, List.mem_of_getElem? (i := 285) (by decide +kernel), by decide +kernel, by decide⟩
theorem cvX4_set : rb_cV yX4_set cX4_set 6 (some .int) 3 := ⟨List.mem_of_getElem? (i := 306) (by decide +kernel), List.mem_of_getElem? (i := 307) (by decide +kernel), wI_X4, List.mem_of_getElem? (i := 308) (by decide +kernel), by decide +kernel, by decide⟩
theorem cvX4_turn : rb_cV yX4_turn cX4_turn 4 (some .int) 2 := ⟨List.mem_of_getElem? (i := 313) (by decide +kernel), List.mem_of_getElem? (i := 314) (by decide +kernel), wI_X4, List.mem_of_getElem? (i := 315) (by decide +kernel), by decide +kernel, by decide⟩
theorem cvX4_as : rb_cV yX4_as cX4_as 3 (some .int) 2 := ⟨List.mem_of_getElem? (i := 317) (by decide +kernel), List.mem_of_getElem? (i := 318) (by decide +kernel), wI_X4, List.mem_of_getElem? (i := 319) (by decide +kernel), by decide +kernel, by decide⟩
theorem cvX4_takes : rb_cV yX4_takes cX4_takes 3 (some .int) 2 := ⟨List.mem_of_getElem? (i := 327) (by decide +kernel), List.mem_of_getElem? (i := 328) (by decide +kernel), wI_X4, List.mem_of_getElem? (i := 329) (by decide +kernel), by decide +kernel, by decide⟩
theorem cvX4_comeIn : rb_cV yX4_comeIn cX4_comeIn 3 (some .int) 1 := ⟨List.mem_of_getElem? (i := 339) (by decide +kernel), List.mem_of_getElem? (i := 340) (by decide +kernel), wI_X4, List.mem_of_getElem? (i := 341) (by decide +kernel), by decide +kernel, by decide⟩
theorem cvX4_improve : rb_cV yX4_improve cX4_improve 3 (some .int) 2 := ⟨List.mem_of_getElem? (i := 359) (by decide +kernel), List.mem_of_getElem? (i := 360) (by decide +kernel), wI_X4, List.mem_of_getElem? (i := 361) (by decide +kernel), by decide +kernel, by decide⟩
theorem cvX4_comesTrue : rb_cV yX4_comesTrue cX4_comesTrue 2 (some .int) 1 := ⟨List.mem_of_getElem? (i := 371) (by decide +kernel), List.mem_of_getElem? (i := 372) (by decide +kernel), wI_X4, List.mem_of_getElem? (i := 373) (by decide +kernel), by decide +kernel, by decide⟩
theorem cvX4_forget : rb_cV yX4_forget cX4_forget 3 (some .int) 1 := ⟨List.mem_of_getElem? (i := 379) (by decide +kernel), List.mem_of_getElem? (i := 380) (by decide +kernel), wI_X4, List.mem_of_getElem? (i := 381) (by decide +kernel), by decide +kernel, by decide⟩
theorem cvX4_days : rb_cV yX4_days cX4_days 2 (some .int) 1 := ⟨List.mem_of_getElem? (i := 383) (by decide +kernel), List.mem_of_getElem? (i := 384) (by decide +kernel), wI_X4, List.mem_of_getElem? (i := 385) (by decide +kernel), by decide +kernel, by decide⟩
theorem cvX4_now : rb_cV yX4_now cX4_now 2 (some .int) 1 := ⟨List.mem_of_getElem? (i := 414) (by decide +kernel), List.mem_of_getElem? (i := 415) (by decide +kernel), wI_X4, List.mem_of_getElem? (i := 416) (by decide +kernel), by decide +kernel, by decide⟩
theorem cvX4_on : rb_cV yX4_on cX4_on 4 (some .int) 3 := ⟨List.mem_of_getElem? (i := 435) (by decide +kernel), List.mem_of_getElem? (i := 436) (by decide +kernel), wI_X4, List.mem_of_getElem? (i := 437) (by decide +kernel), by decide +kernel, by decide⟩
theorem cvX4_larder : rb_cV yX4_larder cX4_larder 3 (some .int) 2 := ⟨List.mem_of_getElem? (i := 446) (by decide +kernel), List.mem_of_getElem? (i := 447) (by decide +kernel), wI_X4, List.mem_of_getElem? (i := 448) (by decide +kernel), by decide +kernel, by decide⟩
theorem cvX4_empty : rb_cV yX4_empty cX4_empty 3 (some .int) 1 := ⟨List.mem_of_getElem? (i := 450) (by decide +kernel), List.mem_of_getElem? (i := 451) (by decide +kernel), wI_X4, List.mem_of_getElem? (i := 452) (by decide +kernel), by decide +kernel, by decide⟩
theorem cvX4_many : rb_cV yX4_many cX4_many 2 (some .int) 1 := ⟨List.mem_of_getElem? (i := 456) (by decide +kernel), List.mem_of_getElem? (i := 457) (by decide +kernel), wI_X4, List.mem_of_getElem? (i := 458) (by decide +kernel), by decide +kernel, by decide⟩
theorem cvX4_out : rb_cV yX4_out cX4_out 3 (some .int) 1 := ⟨List.mem_of_getElem? (i := 460) (by decide +kernel), List.mem_of_getElem? (i := 461) (by decide +kernel), wI_X4, List.mem_of_getElem? (i := 462) (by decide +kernel), by decide +kernel, by decide⟩
theorem cvX4_fewest : rb_cV yX4_fewest cX4_fewest 4 (some .int) 2 := ⟨List.mem_of_getElem? (i := 464) (by decide +kernel), List.mem_of_getElem? (i := 465) (by decide +kernel), wI_X4, List.mem_of_getElem? (i := 466) (by decide +kernel), by decide +kernel, by decide⟩
theorem cvX4_least : rb_cV yX4_least cX4_least 3 (some .int) 1 := ⟨List.mem_of_getElem? (i := 468) (by decide +kernel), List.mem_of_getElem? (i := 469) (by decide +kernel), wI_X4, List.mem_of_getElem? (i := 470) (by decide +kernel), by decide +kernel, by decide⟩
theorem cvX4_best : rb_cV yX4_best cX4_best 6 (some .int) 1 := ⟨List.mem_of_getElem? (i := 472) (by decide +kernel), List.mem_of_getElem? (i := 473) (by decide +kernel), wI_X4, List.mem_of_getElem? (i := 474) (by decide +kernel), by decide +kernel, by decide⟩
theorem cvX4_lean : rb_cV yX4_lean cX4_lean 3 (some .int) 2 := ⟨List.mem_of_getElem? (i := 476) (by decide +kernel), List.mem_of_getElem? (i := 477) (by decide +kernel), wI_X4, List.mem_of_getElem? (i := 478) (by decide +kernel), by decide +kernel, by decide⟩
theorem cvX4_leanFor : rb_cV yX4_leanFor cX4_leanFor 6 (some .int) 2 := ⟨List.mem_of_getElem? (i := 481) (by decide +kernel), List.mem_of_getElem? (i := 482) (by decide +kernel), wI_X4, List.mem_of_getElem? (i := 483) (by decide +kernel), by decide +kernel, by decide⟩
theorem cvX4_kind : rb_cV yX4_kind cX4_kind 6 (some .int) 1 := ⟨List.mem_of_getElem? (i := 485) (by decide +kernel), List.mem_of_getElem? (i := 486) (by decide +kernel), wI_X4, List.mem_of_getElem? (i := 487) (by decide +kernel), by decide +kernel, by decide⟩
theorem cvX4_host : rb_cV yX4_host cX4_host 3 (some .int) 1 := ⟨List.mem_of_getElem? (i := 490) (by decide +kernel), List.mem_of_getElem? (i := 491) (by decide +kernel), wI_X4, List.mem_of_getElem? (i := 492) (by decide +kernel), by decide +kernel, by decide⟩
theorem cvX4_beds : rb_cV yX4_beds cX4_beds 4 (some .int) 2 := ⟨List.mem_of_getElem? (i := 494) (by decide +kernel), List.mem_of_getElem? (i := 495) (by decide +kernel), wI_X4, List.mem_of_getElem? (i := 496) (by decide +kernel), by decide +kernel, by decide⟩
theorem cvX4_feed : rb_cV yX4_feed cX4_feed 4 (some .int) 2 := ⟨List.mem_of_getElem? (i := 498) (by decide +kernel), List.mem_of_getElem? (i := 499) (by decide +kernel), wI_X4, List.mem_of_getElem? (i := 500) (by decide +kernel), by decide +kernel, by decide⟩
theorem cvX4_wipe : rb_cV yX4_wipe cX4_wipe 2 (some .int) 0 := ⟨List.mem_of_getElem? (i := 506) (by decide +kernel), List.mem_of_getElem? (i := 507) (by decide +kernel), wI_X4, List.mem_of_getElem? (i := 508) (by decide +kernel), by decide +kernel, by decide⟩
theorem cvX4_town : rb_cV yX4_town cX4_town 2 (some .int) 0 := ⟨List.mem_of_getElem? (i := 510) (by decide +kernel), List.mem_of_getElem? (i := 511) (by decide +kernel), wI_X4, List.mem_of_getElem? (i := 512) (by decide +kernel), by decide +kernel, by decide⟩
theorem cvX4_sheet : rb_cV yX4_sheet cX4_sheet 4 (some .int) 3 := ⟨List.mem_of_getElem? (i := 633) (by decide +kernel), List.mem_of_getElem? (i := 634) (by decide +kernel), wI_X4, List.mem_of_getElem? (i := 635) (by decide +kernel), by decide +kernel, by decide⟩
theorem cvX4_write : rb_cV yX4_write cX4_write 8 (some .long) 3 := ⟨List.mem_of_getElem? (i := 645) (by decide +kernel), List.mem_of_getElem? (i := 646) (by decide +kernel), wI_X4, List.mem_of_getElem? (i := 647) (by decide +kernel), by decide +kernel, by decide⟩
theorem cvX4_copy : rb_cV yX4_copy cX4_copy 8 (some .int) 5 := ⟨List.mem_of_getElem? (i := 658) (by decide +kernel), List.mem_of_getElem? (i := 659) (by decide +kernel), wI_X4, List.mem_of_getElem? (i := 660) (by decide +kernel), by decide +kernel, by decide⟩
theorem cvX4_lays : rb_cV yX4_lays cX4_lays 7 (some .int) 1 := ⟨List.mem_of_getElem? (i := 667) (by decide +kernel), List.mem_of_getElem? (i := 668) (by decide +kernel), wI_X4, List.mem_of_getElem? (i := 669) (by decide +kernel), by decide +kernel, by decide⟩
theorem cvX4_book : rb_cV yX4_book cX4_book 6 (some .int) 2 := ⟨List.mem_of_getElem? (i := 672) (by decide +kernel), List.mem_of_getElem? (i := 673) (by decide +kernel), wI_X4, List.mem_of_getElem? (i := 674) (by decide +kernel), by decide +kernel, by decide⟩
theorem cvX4_read : rb_cV yX4_read cX4_read 7 (some .int) 2 := ⟨List.mem_of_getElem? (i := 680) (by decide +kernel), List.mem_of_getElem? (i := 681) (by decide +kernel), wI_X4, List.mem_of_getElem? (i := 682) (by decide +kernel), by decide +kernel, by decide⟩
theorem cvX4_image : rb_cV yX4_image cX4_image 1 (some .int) 0 := ⟨List.mem_of_getElem? (i := 688) (by decide +kernel), List.mem_of_getElem? (i := 689) (by decide +kernel), wI_X4, List.mem_of_getElem? (i := 690) (by decide +kernel), by decide +kernel, by decide⟩
theorem cvX4_undo : rb_cV yX4_undo cX4_undo 1 (some .int) 0 := ⟨List.mem_of_getElem? (i := 692) (by decide +kernel), List.mem_of_getElem? (i := 693) (by decide +kernel), wI_X4, List.mem_of_getElem? (i := 694) (by decide +kernel), by decide +kernel, by decide⟩
theorem cvX4_tear : rb_cV yX4_tear cX4_tear 2 (some .int) 0 := ⟨List.mem_of_getElem? (i := 696) (by decide +kernel), List.mem_of_getElem? (i := 697) (by decide +kernel), wI_X4, List.mem_of_getElem? (i := 698) (by decide +kernel), by decide +kernel, by decide⟩
theorem cvX4_count : rb_cV yX4_count cX4_count 2 (some .int) 1 := ⟨List.mem_of_getElem? (i := 700) (by decide +kernel), List.mem_of_getElem? (i := 701) (by decide +kernel), wI_X4, List.mem_of_getElem? (i := 702) (by decide +kernel), by decide +kernel, by decide⟩
theorem cvX4_status : rb_cV yX4_status cX4_status 2 (some .int) 1 := ⟨List.mem_of_getElem? (i := 704) (by decide +kernel), List.mem_of_getElem? (i := 705) (by decide +kernel), wI_X4, List.mem_of_getElem? (i := 706) (by decide +kernel), by decide +kernel, by decide⟩
theorem cvX4_finding : rb_cV yX4_finding cX4_finding 3 (some .int) 1 := ⟨List.mem_of_getElem? (i := 234) (by decide +kernel), List.mem_of_getElem? (i := 0) (by decide +kernel), wI_X4, List.mem_of_getElem? (i := 235) (by decide +kernel), by decide +kernel, by decide⟩
theorem cvX4_isWithin : rb_cS yX4_isWithin cX4_isWithin 2 (some .boolean) 2 := ⟨List.mem_of_getElem? (i := 229) (by decide +kernel), wI_X4, List.mem_of_getElem? (i := 230) (by decide +kernel), by decide +kernel, by decide⟩
theorem cvX4_isHouse : rb_cS yX4_isHouse cX4_isHouse 1 (some .boolean) 1 := ⟨List.mem_of_getElem? (i := 223) (by decide +kernel), wI_X4, List.mem_of_getElem? (i := 224) (by decide +kernel), by decide +kernel, by decide⟩
theorem cvX4_isKind : rb_cS yX4_isKind cX4_isKind 1 (some .boolean) 1 := ⟨List.mem_of_getElem? (i := 267) (by decide +kernel), wI_X4, List.mem_of_getElem? (i := 268) (by decide +kernel), by decide +kernel, by decide⟩
theorem cvX4_isEvent : rb_cS yX4_isEvent cX4_isEvent 1 (some .boolean) 1 := ⟨List.mem_of_getElem? (i := 270) (by decide +kernel), wI_X4, List.mem_of_getElem? (i := 271) (by decide +kernel), by decide +kernel, by decide⟩
theorem cvX4_isSheet : rb_cS yX4_isSheet cX4_isSheet 1 (some .boolean) 1 := ⟨List.mem_of_getElem? (i := 637) (by decide +kernel), wI_X4, List.mem_of_getElem? (i := 638) (by decide +kernel), by decide +kernel, by decide⟩
theorem cvX4_isRumour : rb_cV yX4_isRumour cX4_isRumour 2 (some .boolean) 1 := ⟨List.mem_of_getElem? (i := 288) (by decide +kernel), List.mem_of_getElem? (i := 1) (by decide +kernel), wI_X4, List.mem_of_getElem? (i := 289) (by decide +kernel), by decide +kernel, by decide⟩
theorem cvX4_mostOfHouse : rb_cS yX4_mostOfHouse cX4_mostOfHouse 1 (some .int) 1 := ⟨List.mem_of_getElem? (i := 226) (by decide +kernel), wI_X4, List.mem_of_getElem? (i := 227) (by decide +kernel), by decide +kernel, by decide⟩
theorem cvX4_mostOfRumour : rb_cS yX4_mostOfRumour cX4_mostOfRumour 1 (some .int) 1 := ⟨List.mem_of_getElem? (i := 310) (by decide +kernel), wI_X4, List.mem_of_getElem? (i := 311) (by decide +kernel), by decide +kernel, by decide⟩
theorem cvX4_sumOf : rb_cS yX4_sumOf cX4_sumOf 3 (some .int) 1 := ⟨List.mem_of_getElem? (i := 422) (by decide +kernel), wI_X4, List.mem_of_getElem? (i := 423) (by decide +kernel), by decide +kernel, by decide⟩
theorem cvX4_findingOfBook : rb_cV yX4_findingOfBook cX4_findingOfBook 3 (some .int) 2 := ⟨List.mem_of_getElem? (i := 677) (by decide +kernel), List.mem_of_getElem? (i := 16) (by decide +kernel), wI_X4, List.mem_of_getElem? (i := 678) (by decide +kernel), by decide +kernel, by decide⟩
theorem cvX4_isBookOf : rb_cV yX4_isBookOf cX4_isBookOf 4 (some .boolean) 2 := ⟨List.mem_of_getElem? (i := 685) (by decide +kernel), List.mem_of_getElem? (i := 17) (by decide +kernel), wI_X4, List.mem_of_getElem? (i := 686) (by decide +kernel), by decide +kernel, by decide⟩
theorem cvX5_in : rb_cS yX5_in cX5_in 6 (some .boolean) 3 := ⟨List.mem_of_getElem? (i := 771) (by decide +kernel), wI_X5, List.mem_of_getElem? (i := 772) (by decide +kernel), by decide +kernel, by decide⟩
theorem cvX5_finds : rb_cV yX5_finds cX5_finds 2 (some .int) 1 := ⟨List.mem_of_getElem? (i := 787) (by decide +kernel), List.mem_of_getElem? (i := 19) (by decide +kernel), wI_X5, List.mem_of_getElem? (i := 788) (by decide +kernel), by decide +kernel, by decide⟩
theorem cvX5_saves : rb_cV yX5_saves cX5_saves 2 none 0 := ⟨List.mem_of_getElem? (i := 1065) (by decide +kernel), List.mem_of_getElem? (i := 51) (by decide +kernel), wI_X5, List.mem_of_getElem? (i := 1066) (by decide +kernel), by decide +kernel, by decide⟩
theorem cvX5_putsBack : rb_cV yX5_putsBack cX5_putsBack 2 none 0 := ⟨List.mem_of_getElem? (i := 1139) (by decide +kernel), List.mem_of_getElem? (i := 63) (by decide +kernel), wI_X5, List.mem_of_getElem? (i := 1140) (by decide +kernel), by decide +kernel, by decide⟩
theorem cvX5_laysAside : rb_cV yX5_laysAside cX5_laysAside 2 none 0 := ⟨List.mem_of_getElem? (i := 984) (by decide +kernel), List.mem_of_getElem? (i := 47) (by decide +kernel), wI_X5, List.mem_of_getElem? (i := 985) (by decide +kernel), by decide +kernel, by decide⟩
theorem cvX5_takesBack : rb_cV yX5_takesBack cX5_takesBack 3 (some .int) 1 := ⟨List.mem_of_getElem? (i := 988) (by decide +kernel), List.mem_of_getElem? (i := 48) (by decide +kernel), wI_X5, List.mem_of_getElem? (i := 989) (by decide +kernel), by decide +kernel, by decide⟩
theorem cvX5_becomes : rb_cV yX5_becomes cX5_becomes 4 (some .int) 2 := ⟨List.mem_of_getElem? (i := 782) (by decide +kernel), List.mem_of_getElem? (i := 18) (by decide +kernel), wI_X5, List.mem_of_getElem? (i := 783) (by decide +kernel), by decide +kernel, by decide⟩
theorem cvX5_isHouse : rb_cS yX5_isHouse cX5_isHouse 1 (some .boolean) 1 := ⟨List.mem_of_getElem? (i := 777) (by decide +kernel), wI_X5, List.mem_of_getElem? (i := 778) (by decide +kernel), by decide +kernel, by decide⟩
theorem cvX5_isRumour : rb_cV yX5_isRumour cX5_isRumour 2 (some .boolean) 1 := ⟨List.mem_of_getElem? (i := 843) (by decide +kernel), List.mem_of_getElem? (i := 27) (by decide +kernel), wI_X5, List.mem_of_getElem? (i := 844) (by decide +kernel), by decide +kernel, by decide⟩
theorem cvX5_isKind : rb_cS yX5_isKind cX5_isKind 1 (some .boolean) 1 := ⟨List.mem_of_getElem? (i := 826) (by decide +kernel), wI_X5, List.mem_of_getElem? (i := 827) (by decide +kernel), by decide +kernel, by decide⟩
theorem cvX5_isEvent : rb_cS yX5_isEvent cX5_isEvent 1 (some .boolean) 1 := ⟨List.mem_of_getElem? (i := 829) (by decide +kernel), wI_X5, List.mem_of_getElem? (i := 830) (by decide +kernel), by decide +kernel, by decide⟩
theorem cvX5_partOf : rb_cS yX5_partOf cX5_partOf 2 (some .int) 2 := ⟨List.mem_of_getElem? (i := 714) (by decide +kernel), wI_X5, List.mem_of_getElem? (i := 715) (by decide +kernel), by decide +kernel, by decide⟩
theorem cvX5_spotOf : rb_cS yX5_spotOf cX5_spotOf 2 (some .int) 2 := ⟨List.mem_of_getElem? (i := 807) (by decide +kernel), wI_X5, List.mem_of_getElem? (i := 808) (by decide +kernel), by decide +kernel, by decide⟩
theorem cvX5_its : rb_cV yX5_its cX5_its 3 (some .int) 2 := ⟨List.mem_of_getElem? (i := 804) (by decide +kernel), List.mem_of_getElem? (i := 22) (by decide +kernel), wI_X5, List.mem_of_getElem? (i := 805) (by decide +kernel), by decide +kernel, by decide⟩
theorem cvX5_has : rb_cV yX5_has cX5_has 3 (some .int) 2 := ⟨List.mem_of_getElem? (i := 796) (by decide +kernel), List.mem_of_getElem? (i := 20) (by decide +kernel), wI_X5, List.mem_of_getElem? (i := 797) (by decide +kernel), by decide +kernel, by decide⟩
theorem cvX5_house : rb_cV yX5_house cX5_house 5 (some .int) 3 := ⟨List.mem_of_getElem? (i := 766) (by decide +kernel), List.mem_of_getElem? (i := 767) (by decide +kernel), wI_X5, List.mem_of_getElem? (i := 768) (by decide +kernel), by decide +kernel, by decide⟩
theorem cvX5_thoseAt : rb_cV yX5_thoseAt cX5_thoseAt 4 (some .int) 1 := ⟨List.mem_of_getElem? (i := 800) (by decide +kernel), List.mem_of_getElem? (i := 21) (by decide +kernel), wI_X5, List.mem_of_getElem? (i := 801) (by decide +kernel), by decide +kernel, by decide⟩
theorem cvX5_ones : rb_cS yX5_ones cX5_ones 3 (some .int) 1 := ⟨List.mem_of_getElem? (i := 883) (by decide +kernel), wI_X5, List.mem_of_getElem? (i := 884) (by decide +kernel), by decide +kernel, by decide⟩
theorem cvX5_eventsAt : rb_cV yX5_eventsAt cX5_eventsAt 4 (some .int) 1 := ⟨List.mem_of_getElem? (i := 811) (by decide +kernel), List.mem_of_getElem? (i := 23) (by decide +kernel), wI_X5, List.mem_of_getElem? (i := 812) (by decide +kernel), by decide +kernel, by decide⟩
theorem cvX5_eatenAt : rb_cV yX5_eatenAt cX5_eatenAt 4 (some .int) 1 := ⟨List.mem_of_getElem? (i := 815) (by decide +kernel), List.mem_of_getElem? (i := 24) (by decide +kernel), wI_X5, List.mem_of_getElem? (i := 816) (by decide +kernel), by decide +kernel, by decide⟩
theorem cvX5_houseOf : rb_cV yX5_houseOf cX5_houseOf 3 (some .int) 2 := ⟨List.mem_of_getElem? (i := 790) (by decide +kernel), List.mem_of_getElem? (i := 791) (by decide +kernel), wI_X5, List.mem_of_getElem? (i := 792) (by decide +kernel), by decide +kernel, by decide⟩
theorem cvX5_adds : rb_cV yX5_adds cX5_adds 4 (some .int) 2 := ⟨List.mem_of_getElem? (i := 835) (by decide +kernel), List.mem_of_getElem? (i := 26) (by decide +kernel), wI_X5, List.mem_of_getElem? (i := 836) (by decide +kernel), by decide +kernel, by decide⟩
theorem cvX5_rumour : rb_cV yX5_rumour cX5_rumour 3 (some .int) 2 := ⟨List.mem_of_getElem? (i := 822) (by decide +kernel), List.mem_of_getElem? (i := 823) (by decide +kernel), wI_X5, List.mem_of_getElem? (i := 824) (by decide +kernel), by decide +kernel, by decide⟩
theorem cvX5_eats : rb_cV yX5_eats cX5_eats 4 (some .int) 1 := ⟨List.mem_of_getElem? (i := 819) (by decide +kernel), List.mem_of_getElem? (i := 25) (by decide +kernel), wI_X5, List.mem_of_getElem? (i := 820) (by decide +kernel), by decide +kernel, by decide⟩
theorem cvX5_needs : rb_cV yX5_needs cX5_needs 3 (some .int) 1 := ⟨List.mem_of_getElem? (i := 847) (by decide +kernel), List.mem_of_getElem? (i := 28) (by decide +kernel), wI_X5, List.mem_of_getElem? (i := 848) (by decide +kernel), by decide +kernel, by decide⟩
theorem cvX5_grows : rb_cV yX5_grows cX5_grows 2 (some .int) 1 := ⟨List.mem_of_getElem? (i := 851) (by decide +kernel), List.mem_of_getElem? (i := 29) (by decide +kernel), wI_X5, List.mem_of_getElem? (i := 852) (by decide +kernel), by decide +kernel, by decide⟩
theorem cvX5_of : rb_cV yX5_of cX5_of 3 (some .int) 2 := ⟨List.mem_of_getElem? (i := 838) (by decide +kernel), List.mem_of_getElem? (i := 839) (by decide +kernel), wI_X5, List.mem_of_getElem? (i := 840) (by decide +kernel), by decide +kernel, by decide⟩
theorem cvX5_set : rb_cV yX5_set cX5_set 5 (some .int) 3 := ⟨List.mem_of_getElem? (i := 854) (by decide +kernel), List.mem_of_getElem? (i := 855) (by decide +kernel), wI_X5, List.mem_of_getElem? (i := 856) (by decide +kernel), by decide +kernel, by decide⟩
theorem cvX5_turn : rb_cV yX5_turn cX5_turn 3 (some .int) 2 := ⟨List.mem_of_getElem? (i := 859) (by decide +kernel), List.mem_of_getElem? (i := 860) (by decide +kernel), wI_X5, List.mem_of_getElem? (i := 861) (by decide +kernel), by decide +kernel, by decide⟩
theorem cvX5_isUnder : rb_cS yX5_isUnder cX5_isUnder 2 (some .boolean) 2 := ⟨List.mem_of_getElem? (i := 867) (by decide +kernel), wI_X5, List.mem_of_getElem? (i := 868) (by decide +kernel), by decide +kernel, by decide⟩
theorem cvX5_as : rb_cV yX5_as cX5_as 3 (some .int) 2 := ⟨List.mem_of_getElem? (i := 863) (by decide +kernel), List.mem_of_getElem? (i := 864) (by decide +kernel), wI_X5, List.mem_of_getElem? (i := 865) (by decide +kernel), by decide +kernel, by decide⟩
theorem cvX5_isFree : rb_cV yX5_isFree cX5_isFree 2 (some .boolean) 1 := ⟨List.mem_of_getElem? (i := 880) (by decide +kernel), List.mem_of_getElem? (i := 31) (by decide +kernel), wI_X5, List.mem_of_getElem? (i := 881) (by decide +kernel), by decide +kernel, by decide⟩
theorem cvX5_isTaken : rb_cV yX5_isTaken cX5_isTaken 3 (some .boolean) 2 := ⟨List.mem_of_getElem? (i := 876) (by decide +kernel), List.mem_of_getElem? (i := 30) (by decide +kernel), wI_X5, List.mem_of_getElem? (i := 877) (by decide +kernel), by decide +kernel, by decide⟩
theorem cvX5_takes : rb_cV yX5_takes cX5_takes 3 (some .int) 2 := ⟨List.mem_of_getElem? (i := 871) (by decide +kernel), List.mem_of_getElem? (i := 872) (by decide +kernel), wI_X5, List.mem_of_getElem? (i := 873) (by decide +kernel), by decide +kernel, by decide⟩
theorem cvX5_isTrue : rb_cV yX5_isTrue cX5_isTrue 2 (some .boolean) 1 := ⟨List.mem_of_getElem? (i := 891) (by decide +kernel), List.mem_of_getElem? (i := 32) (by decide +kernel), wI_X5, List.mem_of_getElem? (i := 892) (by decide +kernel), by decide +kernel, by decide⟩
theorem cvX5_hostOf : rb_cV yX5_hostOf cX5_hostOf 4 (some .int) 1 := ⟨List.mem_of_getElem? (i := 896) (by decide +kernel), List.mem_of_getElem? (i := 33) (by decide +kernel), wI_X5, List.mem_of_getElem? (i := 897) (by decide +kernel), by decide +kernel, by decide⟩
theorem cvX5_comeIn : rb_cV yX5_comeIn cX5_comeIn 2 (some .int) 1 := ⟨List.mem_of_getElem? (i := 886) (by decide +kernel), List.mem_of_getElem? (i := 887) (by decide +kernel), wI_X5, List.mem_of_getElem? (i := 888) (by decide +kernel), by decide +kernel, by decide⟩
theorem cvX5_heldTo : rb_cS yX5_heldTo cX5_heldTo 2 (some .int) 2 := ⟨List.mem_of_getElem? (i := 908) (by decide +kernel), wI_X5, List.mem_of_getElem? (i := 909) (by decide +kernel), by decide +kernel, by decide⟩
theorem cvX5_isImproved : rb_cV yX5_isImproved cX5_isImproved 6 none 2 := ⟨List.mem_of_getElem? (i := 905) (by decide +kernel), List.mem_of_getElem? (i := 34) (by decide +kernel), wI_X5, List.mem_of_getElem? (i := 906) (by decide +kernel), by decide +kernel, by decide⟩
theorem cvX5_improve : rb_cV yX5_improve cX5_improve 3 (some .int) 2 := ⟨List.mem_of_getElem? (i := 899) (by decide +kernel), List.mem_of_getElem? (i := 900) (by decide +kernel), wI_X5, List.mem_of_getElem? (i := 901) (by decide +kernel), by decide +kernel, by decide⟩
theorem cvX5_becomesTrue : rb_cV yX5_becomesTrue cX5_becomesTrue 4 (some .int) 1 := ⟨List.mem_of_getElem? (i := 916) (by decide +kernel), List.mem_of_getElem? (i := 35) (by decide +kernel), wI_X5, List.mem_of_getElem? (i := 917) (by decide +kernel), by decide +kernel, by decide⟩
theorem cvX5_comesTrue : rb_cV yX5_comesTrue cX5_comesTrue 2 (some .int) 1 := ⟨List.mem_of_getElem? (i := 911) (by decide +kernel), List.mem_of_getElem? (i := 912) (by decide +kernel), wI_X5, List.mem_of_getElem? (i := 913) (by decide +kernel), by decide +kernel, by decide⟩
theorem cvX5_forget : rb_cV yX5_forget cX5_forget 3 (some .int) 1 := ⟨List.mem_of_getElem? (i := 919) (by decide +kernel), List.mem_of_getElem? (i := 920) (by decide +kernel), wI_X5, List.mem_of_getElem? (i := 921) (by decide +kernel), by decide +kernel, by decide⟩
theorem cvX5_feeds : rb_cV yX5_feeds cX5_feeds 3 none 1 := ⟨List.mem_of_getElem? (i := 937) (by decide +kernel), List.mem_of_getElem? (i := 38) (by decide +kernel), wI_X5, List.mem_of_getElem? (i := 938) (by decide +kernel), by decide +kernel, by decide⟩
theorem cvX5_isOnRoad : rb_cV yX5_isOnRoad cX5_isOnRoad 4 (some .boolean) 1 := ⟨List.mem_of_getElem? (i := 949) (by decide +kernel), List.mem_of_getElem? (i := 41) (by decide +kernel), wI_X5, List.mem_of_getElem? (i := 950) (by decide +kernel), by decide +kernel, by decide⟩
theorem cvX5_lodgersOf : rb_cV yX5_lodgersOf cX5_lodgersOf 5 (some .int) 2 := ⟨List.mem_of_getElem? (i := 945) (by decide +kernel), List.mem_of_getElem? (i := 40) (by decide +kernel), wI_X5, List.mem_of_getElem? (i := 946) (by decide +kernel), by decide +kernel, by decide⟩
theorem cvX5_makesThird : rb_cV yX5_makesThird cX5_makesThird 7 none 1 := ⟨List.mem_of_getElem? (i := 941) (by decide +kernel), List.mem_of_getElem? (i := 39) (by decide +kernel), wI_X5, List.mem_of_getElem? (i := 942) (by decide +kernel), by decide +kernel, by decide⟩
theorem cvX5_day : rb_cV yX5_day cX5_day 2 none 0 := ⟨List.mem_of_getElem? (i := 933) (by decide +kernel), List.mem_of_getElem? (i := 37) (by decide +kernel), wI_X5, List.mem_of_getElem? (i := 934) (by decide +kernel), by decide +kernel, by decide⟩
theorem cvX5_daysGo : rb_cV yX5_daysGo cX5_daysGo 3 none 1 := ⟨List.mem_of_getElem? (i := 929) (by decide +kernel), List.mem_of_getElem? (i := 36) (by decide +kernel), wI_X5, List.mem_of_getElem? (i := 930) (by decide +kernel), by decide +kernel, by decide⟩
theorem cvX5_days : rb_cV yX5_days cX5_days 2 (some .int) 1 := ⟨List.mem_of_getElem? (i := 923) (by decide +kernel), List.mem_of_getElem? (i := 924) (by decide +kernel), wI_X5, List.mem_of_getElem? (i := 925) (by decide +kernel), by decide +kernel, by decide⟩
theorem cvX5_larders : rb_cV yX5_larders cX5_larders 3 (some .int) 0 := ⟨List.mem_of_getElem? (i := 961) (by decide +kernel), List.mem_of_getElem? (i := 43) (by decide +kernel), wI_X5, List.mem_of_getElem? (i := 962) (by decide +kernel), by decide +kernel, by decide⟩
theorem cvX5_bulks : rb_cV yX5_bulks cX5_bulks 3 (some .int) 0 := ⟨List.mem_of_getElem? (i := 957) (by decide +kernel), List.mem_of_getElem? (i := 42) (by decide +kernel), wI_X5, List.mem_of_getElem? (i := 958) (by decide +kernel), by decide +kernel, by decide⟩
theorem cvX5_freeBeds : rb_cV yX5_freeBeds cX5_freeBeds 3 (some .int) 0 := ⟨List.mem_of_getElem? (i := 965) (by decide +kernel), List.mem_of_getElem? (i := 44) (by decide +kernel), wI_X5, List.mem_of_getElem? (i := 966) (by decide +kernel), by decide +kernel, by decide⟩
theorem cvX5_eaten : rb_cV yX5_eaten cX5_eaten 3 (some .int) 0 := ⟨List.mem_of_getElem? (i := 969) (by decide +kernel), List.mem_of_getElem? (i := 45) (by decide +kernel), wI_X5, List.mem_of_getElem? (i := 970) (by decide +kernel), by decide +kernel, by decide⟩
theorem cvX5_now : rb_cV yX5_now cX5_now 2 (some .int) 1 := ⟨List.mem_of_getElem? (i := 952) (by decide +kernel), List.mem_of_getElem? (i := 953) (by decide +kernel), wI_X5, List.mem_of_getElem? (i := 954) (by decide +kernel), by decide +kernel, by decide⟩
theorem cvX5_isAhead : rb_cS yX5_isAhead cX5_isAhead 1 (some .boolean) 1 := ⟨List.mem_of_getElem? (i := 976) (by decide +kernel), wI_X5, List.mem_of_getElem? (i := 977) (by decide +kernel), by decide +kernel, by decide⟩
theorem cvX5_behind : rb_cV yX5_behind cX5_behind 3 (some .int) 2 := ⟨List.mem_of_getElem? (i := 980) (by decide +kernel), List.mem_of_getElem? (i := 46) (by decide +kernel), wI_X5, List.mem_of_getElem? (i := 981) (by decide +kernel), by decide +kernel, by decide⟩
theorem cvX5_on : rb_cV yX5_on cX5_on 4 (some .int) 3 := ⟨List.mem_of_getElem? (i := 972) (by decide +kernel), List.mem_of_getElem? (i := 973) (by decide +kernel), wI_X5, List.mem_of_getElem? (i := 974) (by decide +kernel), by decide +kernel, by decide⟩
theorem cvX5_larder : rb_cV yX5_larder cX5_larder 3 (some .int) 2 := ⟨List.mem_of_getElem? (i := 991) (by decide +kernel), List.mem_of_getElem? (i := 992) (by decide +kernel), wI_X5, List.mem_of_getElem? (i := 993) (by decide +kernel), by decide +kernel, by decide⟩
theorem cvX5_firstAs : rb_cV yX5_firstAs cX5_firstAs 5 (some .int) 2 := ⟨List.mem_of_getElem? (i := 1000) (by decide +kernel), List.mem_of_getElem? (i := 49) (by decide +kernel), wI_X5, List.mem_of_getElem? (i := 1001) (by decide +kernel), by decide +kernel, by decide⟩
theorem cvX5_empty : rb_cV yX5_empty cX5_empty 2 (some .int) 1 := ⟨List.mem_of_getElem? (i := 995) (by decide +kernel), List.mem_of_getElem? (i := 996) (by decide +kernel), wI_X5, List.mem_of_getElem? (i := 997) (by decide +kernel), by decide +kernel, by decide⟩
theorem cvX5_many : rb_cV yX5_many cX5_many 2 (some .int) 1 := ⟨List.mem_of_getElem? (i := 1004) (by decide +kernel), List.mem_of_getElem? (i := 1005) (by decide +kernel), wI_X5, List.mem_of_getElem? (i := 1006) (by decide +kernel), by decide +kernel, by decide⟩
theorem cvX5_out : rb_cV yX5_out cX5_out 2 (some .int) 1 := ⟨List.mem_of_getElem? (i := 1008) (by decide +kernel), List.mem_of_getElem? (i := 1009) (by decide +kernel), wI_X5, List.mem_of_getElem? (i := 1010) (by decide +kernel), by decide +kernel, by decide⟩
theorem cvX5_wrongLodger : rb_cV yX5_wrongLodger cX5_wrongLodger 2 (some .int) 1 := ⟨List.mem_of_getElem? (i := 1017) (by decide +kernel), List.mem_of_getElem? (i := 50) (by decide +kernel), wI_X5, List.mem_of_getElem? (i := 1018) (by decide +kernel), by decide +kernel, by decide⟩
theorem cvX5_fewest : rb_cV yX5_fewest cX5_fewest 5 (some .int) 2 := ⟨List.mem_of_getElem? (i := 1012) (by decide +kernel), List.mem_of_getElem? (i := 1013) (by decide +kernel), wI_X5, List.mem_of_getElem? (i := 1014) (by decide +kernel), by decide +kernel, by decide⟩
theorem cvX5_least : rb_cV yX5_least cX5_least 5 (some .int) 1 := ⟨List.mem_of_getElem? (i := 1020) (by decide +kernel), List.mem_of_getElem? (i := 1021) (by decide +kernel), wI_X5, List.mem_of_getElem? (i := 1022) (by decide +kernel), by decide +kernel, by decide⟩
theorem cvX5_isSoon : rb_cS yX5_isSoon cX5_isSoon 1 (some .boolean) 1 := ⟨List.mem_of_getElem? (i := 1028) (by decide +kernel), wI_X5, List.mem_of_getElem? (i := 1029) (by decide +kernel), by decide +kernel, by decide⟩
theorem cvX5_best : rb_cV yX5_best cX5_best 7 (some .int) 1 := ⟨List.mem_of_getElem? (i := 1024) (by decide +kernel), List.mem_of_getElem? (i := 1025) (by decide +kernel), wI_X5, List.mem_of_getElem? (i := 1026) (by decide +kernel), by decide +kernel, by decide⟩
theorem cvX5_lean : rb_cV yX5_lean cX5_lean 3 (some .int) 2 := ⟨List.mem_of_getElem? (i := 1031) (by decide +kernel), List.mem_of_getElem? (i := 1032) (by decide +kernel), wI_X5, List.mem_of_getElem? (i := 1033) (by decide +kernel), by decide +kernel, by decide⟩
theorem cvX5_leanFor : rb_cV yX5_leanFor cX5_leanFor 8 (some .int) 2 := ⟨List.mem_of_getElem? (i := 1035) (by decide +kernel), List.mem_of_getElem? (i := 1036) (by decide +kernel), wI_X5, List.mem_of_getElem? (i := 1037) (by decide +kernel), by decide +kernel, by decide⟩
theorem cvX5_kind : rb_cV yX5_kind cX5_kind 7 (some .int) 1 := ⟨List.mem_of_getElem? (i := 1039) (by decide +kernel), List.mem_of_getElem? (i := 1040) (by decide +kernel), wI_X5, List.mem_of_getElem? (i := 1041) (by decide +kernel), by decide +kernel, by decide⟩
theorem cvX5_host : rb_cV yX5_host cX5_host 3 (some .int) 1 := ⟨List.mem_of_getElem? (i := 1043) (by decide +kernel), List.mem_of_getElem? (i := 1044) (by decide +kernel), wI_X5, List.mem_of_getElem? (i := 1045) (by decide +kernel), by decide +kernel, by decide⟩
theorem cvX5_beds : rb_cV yX5_beds cX5_beds 6 (some .int) 2 := ⟨List.mem_of_getElem? (i := 1047) (by decide +kernel), List.mem_of_getElem? (i := 1048) (by decide +kernel), wI_X5, List.mem_of_getElem? (i := 1049) (by decide +kernel), by decide +kernel, by decide⟩
theorem cvX5_feed : rb_cV yX5_feed cX5_feed 4 (some .int) 2 := ⟨List.mem_of_getElem? (i := 1051) (by decide +kernel), List.mem_of_getElem? (i := 1052) (by decide +kernel), wI_X5, List.mem_of_getElem? (i := 1053) (by decide +kernel), by decide +kernel, by decide⟩
theorem cvX5_wipe : rb_cV yX5_wipe cX5_wipe 2 (some .int) 0 := ⟨List.mem_of_getElem? (i := 1056) (by decide +kernel), List.mem_of_getElem? (i := 1057) (by decide +kernel), wI_X5, List.mem_of_getElem? (i := 1058) (by decide +kernel), by decide +kernel, by decide⟩
theorem cvX5_byteAt : rb_cV yX5_byteAt cX5_byteAt 2 (some .int) 1 := ⟨List.mem_of_getElem? (i := 1073) (by decide +kernel), List.mem_of_getElem? (i := 53) (by decide +kernel), wI_X5, List.mem_of_getElem? (i := 1074) (by decide +kernel), by decide +kernel, by decide⟩
theorem cvX5_isLetter : rb_cS yX5_isLetter cX5_isLetter 1 (some .boolean) 1 := ⟨List.mem_of_getElem? (i := 1076) (by decide +kernel), wI_X5, List.mem_of_getElem? (i := 1077) (by decide +kernel), by decide +kernel, by decide⟩
theorem cvX5_isDigit : rb_cS yX5_isDigit cX5_isDigit 1 (some .boolean) 1 := ⟨List.mem_of_getElem? (i := 1081) (by decide +kernel), wI_X5, List.mem_of_getElem? (i := 1082) (by decide +kernel), by decide +kernel, by decide⟩
theorem cvX5_token : rb_cV yX5_token cX5_token 3 none 0 := ⟨List.mem_of_getElem? (i := 1069) (by decide +kernel), List.mem_of_getElem? (i := 52) (by decide +kernel), wI_X5, List.mem_of_getElem? (i := 1070) (by decide +kernel), by decide +kernel, by decide⟩
theorem cvX5_must : rb_cV yX5_must cX5_must 2 none 1 := ⟨List.mem_of_getElem? (i := 1111) (by decide +kernel), List.mem_of_getElem? (i := 58) (by decide +kernel), wI_X5, List.mem_of_getElem? (i := 1112) (by decide +kernel), by decide +kernel, by decide⟩
theorem cvX5_word : rb_cV yX5_word cX5_word 4 (some .long) 0 := ⟨List.mem_of_getElem? (i := 1095) (by decide +kernel), List.mem_of_getElem? (i := 56) (by decide +kernel), wI_X5, List.mem_of_getElem? (i := 1096) (by decide +kernel), by decide +kernel, by decide⟩
theorem cvX5_number : rb_cV yX5_number cX5_number 6 none 2 := ⟨List.mem_of_getElem? (i := 1116) (by decide +kernel), List.mem_of_getElem? (i := 59) (by decide +kernel), wI_X5, List.mem_of_getElem? (i := 1117) (by decide +kernel), by decide +kernel, by decide⟩
theorem cvX5_kindHere : rb_cV yX5_kindHere cX5_kindHere 3 (some .int) 0 := ⟨List.mem_of_getElem? (i := 1091) (by decide +kernel), List.mem_of_getElem? (i := 55) (by decide +kernel), wI_X5, List.mem_of_getElem? (i := 1092) (by decide +kernel), by decide +kernel, by decide⟩
theorem cvX5_partItem : rb_cV yX5_partItem cX5_partItem 5 none 3 := ⟨List.mem_of_getElem? (i := 1121) (by decide +kernel), List.mem_of_getElem? (i := 60) (by decide +kernel), wI_X5, List.mem_of_getElem? (i := 1122) (by decide +kernel), by decide +kernel, by decide⟩
theorem cvX5_peeked : rb_cV yX5_peeked cX5_peeked 3 (some .int) 0 := ⟨List.mem_of_getElem? (i := 1126) (by decide +kernel), List.mem_of_getElem? (i := 61) (by decide +kernel), wI_X5, List.mem_of_getElem? (i := 1127) (by decide +kernel), by decide +kernel, by decide⟩
theorem cvX5_rumourItem : rb_cV yX5_rumourItem cX5_rumourItem 4 none 1 := ⟨List.mem_of_getElem? (i := 1107) (by decide +kernel), List.mem_of_getElem? (i := 57) (by decide +kernel), wI_X5, List.mem_of_getElem? (i := 1108) (by decide +kernel), by decide +kernel, by decide⟩
theorem cvX5_houseItem : rb_cV yX5_houseItem cX5_houseItem 2 none 0 := ⟨List.mem_of_getElem? (i := 1131) (by decide +kernel), List.mem_of_getElem? (i := 62) (by decide +kernel), wI_X5, List.mem_of_getElem? (i := 1132) (by decide +kernel), by decide +kernel, by decide⟩
theorem cvX5_item : rb_cV yX5_item cX5_item 5 none 0 := ⟨List.mem_of_getElem? (i := 1087) (by decide +kernel), List.mem_of_getElem? (i := 54) (by decide +kernel), wI_X5, List.mem_of_getElem? (i := 1088) (by decide +kernel), by decide +kernel, by decide⟩
theorem cvX5_town : rb_cV yX5_town cX5_town 2 (some .int) 0 := ⟨List.mem_of_getElem? (i := 1060) (by decide +kernel), List.mem_of_getElem? (i := 1061) (by decide +kernel), wI_X5, List.mem_of_getElem? (i := 1062) (by decide +kernel), by decide +kernel, by decide⟩
theorem cvX5_isOne : rb_cS yX5_isOne cX5_isOne 1 (some .boolean) 1 := ⟨List.mem_of_getElem? (i := 1146) (by decide +kernel), wI_X5, List.mem_of_getElem? (i := 1147) (by decide +kernel), by decide +kernel, by decide⟩
theorem cvX5_sheet : rb_cV yX5_sheet cX5_sheet 5 (some .int) 3 := ⟨List.mem_of_getElem? (i := 1142) (by decide +kernel), List.mem_of_getElem? (i := 1143) (by decide +kernel), wI_X5, List.mem_of_getElem? (i := 1144) (by decide +kernel), by decide +kernel, by decide⟩
theorem cvX5_narrowed : rb_cS yX5_narrowed cX5_narrowed 3 (some .long) 2 := ⟨List.mem_of_getElem? (i := 1159) (by decide +kernel), wI_X5, List.mem_of_getElem? (i := 1160) (by decide +kernel), by decide +kernel, by decide⟩
theorem cvX5_wrongSheet : rb_cV yX5_wrongSheet cX5_wrongSheet 2 (some .int) 1 := ⟨List.mem_of_getElem? (i := 1155) (by decide +kernel), List.mem_of_getElem? (i := 64) (by decide +kernel), wI_X5, List.mem_of_getElem? (i := 1156) (by decide +kernel), by decide +kernel, by decide⟩
theorem cvX5_write : rb_cV yX5_write cX5_write 8 (some .long) 3 := ⟨List.mem_of_getElem? (i := 1150) (by decide +kernel), List.mem_of_getElem? (i := 1151) (by decide +kernel), wI_X5, List.mem_of_getElem? (i := 1152) (by decide +kernel), by decide +kernel, by decide⟩
theorem cvX5_copy : rb_cV yX5_copy cX5_copy 7 (some .int) 5 := ⟨List.mem_of_getElem? (i := 1162) (by decide +kernel), List.mem_of_getElem? (i := 1163) (by decide +kernel), wI_X5, List.mem_of_getElem? (i := 1164) (by decide +kernel), by decide +kernel, by decide⟩
theorem cvX5_lays : rb_cV yX5_lays cX5_lays 6 (some .int) 1 := ⟨List.mem_of_getElem? (i := 1166) (by decide +kernel), List.mem_of_getElem? (i := 1167) (by decide +kernel), wI_X5, List.mem_of_getElem? (i := 1168) (by decide +kernel), by decide +kernel, by decide⟩
theorem cvX5_wrongBook : rb_cV yX5_wrongBook cX5_wrongBook 4 (some .int) 2 := ⟨List.mem_of_getElem? (i := 1175) (by decide +kernel), List.mem_of_getElem? (i := 65) (by decide +kernel), wI_X5, List.mem_of_getElem? (i := 1176) (by decide +kernel), by decide +kernel, by decide⟩
theorem cvX5_book : rb_cV yX5_book cX5_book 5 (some .int) 2 := ⟨List.mem_of_getElem? (i := 1170) (by decide +kernel), List.mem_of_getElem? (i := 1171) (by decide +kernel), wI_X5, List.mem_of_getElem? (i := 1172) (by decide +kernel), by decide +kernel, by decide⟩
theorem cvX5_isBook : rb_cV yX5_isBook cX5_isBook 4 (some .boolean) 2 := ⟨List.mem_of_getElem? (i := 1183) (by decide +kernel), List.mem_of_getElem? (i := 66) (by decide +kernel), wI_X5, List.mem_of_getElem? (i := 1184) (by decide +kernel), by decide +kernel, by decide⟩
theorem cvX5_read : rb_cV yX5_read cX5_read 7 (some .int) 2 := ⟨List.mem_of_getElem? (i := 1178) (by decide +kernel), List.mem_of_getElem? (i := 1179) (by decide +kernel), wI_X5, List.mem_of_getElem? (i := 1180) (by decide +kernel), by decide +kernel, by decide⟩
theorem cvX5_image : rb_cV yX5_image cX5_image 2 (some .int) 0 := ⟨List.mem_of_getElem? (i := 1186) (by decide +kernel), List.mem_of_getElem? (i := 1187) (by decide +kernel), wI_X5, List.mem_of_getElem? (i := 1188) (by decide +kernel), by decide +kernel, by decide⟩
theorem cvX5_undo : rb_cV yX5_undo cX5_undo 2 (some .int) 0 := ⟨List.mem_of_getElem? (i := 1190) (by decide +kernel), List.mem_of_getElem? (i := 1191) (by decide +kernel), wI_X5, List.mem_of_getElem? (i := 1192) (by decide +kernel), by decide +kernel, by decide⟩
theorem cvX5_tear : rb_cV yX5_tear cX5_tear 2 (some .int) 0 := ⟨List.mem_of_getElem? (i := 1194) (by decide +kernel), List.mem_of_getElem? (i := 1195) (by decide +kernel), wI_X5, List.mem_of_getElem? (i := 1196) (by decide +kernel), by decide +kernel, by decide⟩
theorem cvX5_bedsAll : rb_cV yX5_bedsAll cX5_bedsAll 3 (some .int) 0 := ⟨List.mem_of_getElem? (i := 1203) (by decide +kernel), List.mem_of_getElem? (i := 67) (by decide +kernel), wI_X5, List.mem_of_getElem? (i := 1204) (by decide +kernel), by decide +kernel, by decide⟩
theorem cvX5_count : rb_cV yX5_count cX5_count 2 (some .int) 1 := ⟨List.mem_of_getElem? (i := 1198) (by decide +kernel), List.mem_of_getElem? (i := 1199) (by decide +kernel), wI_X5, List.mem_of_getElem? (i := 1200) (by decide +kernel), by decide +kernel, by decide⟩
theorem cvX5_status : rb_cV yX5_status cX5_status 4 (some .int) 1 := ⟨List.mem_of_getElem? (i := 1206) (by decide +kernel), List.mem_of_getElem? (i := 1207) (by decide +kernel), wI_X5, List.mem_of_getElem? (i := 1208) (by decide +kernel), by decide +kernel, by decide⟩
theorem cvJ9_max_7cf53 : rb_cS yJ9_max_7cf53 cJ9_max_7cf53 2 (some .int) 2 := ⟨List.mem_of_getElem? (i := 260) (by decide +kernel), wI_J9, List.mem_of_getElem? (i := 261) (by decide +kernel), by decide +kernel, by decide⟩
theorem cvJ9_min_7cf53 : rb_cS yJ9_min_7cf53 cJ9_min_7cf53 2 (some .int) 2 := ⟨List.mem_of_getElem? (i := 367) (by decide +kernel), wI_J9, List.mem_of_getElem? (i := 368) (by decide +kernel), by decide +kernel, by decide⟩
theorem cvJ0_length_8abf5 : rb_cV yJ0_length_8abf5 cJ0_length_8abf5 1 (some .int) 0 := ⟨List.mem_of_getElem? (i := 535) (by decide +kernel), List.mem_of_getElem? (i := 536) (by decide +kernel), wI_J0, List.mem_of_getElem? (i := 537) (by decide +kernel), by decide +kernel, by decide⟩
theorem cvJ0_charAt_5068e : rb_cV yJ0_charAt_5068e cJ0_charAt_5068e 2 (some .char) 1 := ⟨List.mem_of_getElem? (i := 545) (by decide +kernel), List.mem_of_getElem? (i := 546) (by decide +kernel), wI_J0, List.mem_of_getElem? (i := 547) (by decide +kernel), by decide +kernel, by decide⟩
theorem cvJ0_coder_7d493 : rb_cV yJ0_coder_7d493 cJ0_coder_7d493 1 (some .byte) 0 := ⟨List.mem_of_getElem? (i := 539) (by decide +kernel), List.mem_of_getElem? (i := 540) (by decide +kernel), wI_J0, List.mem_of_getElem? (i := 541) (by decide +kernel), by decide +kernel, by decide⟩
theorem cvJ0_isLatin1_aae02 : rb_cV yJ0_isLatin1_aae02 cJ0_isLatin1_aae02 1 (some .boolean) 0 := ⟨List.mem_of_getElem? (i := 549) (by decide +kernel), List.mem_of_getElem? (i := 550) (by decide +kernel), wI_J0, List.mem_of_getElem? (i := 551) (by decide +kernel), by decide +kernel, by decide⟩
theorem cvJ0_checkIndex_df160 : rb_cS yJ0_checkIndex_df160 cJ0_checkIndex_df160 2 none 2 := ⟨List.mem_of_getElem? (i := 556) (by decide +kernel), wI_J0, List.mem_of_getElem? (i := 557) (by decide +kernel), by decide +kernel, by decide⟩
theorem cvJ1_charAt_3b067 : rb_cS yJ1_charAt_3b067 cJ1_charAt_3b067 2 (some .char) 2 := ⟨List.mem_of_getElem? (i := 553) (by decide +kernel), wI_J1, List.mem_of_getElem? (i := 554) (by decide +kernel), by decide +kernel, by decide⟩
theorem cvJ2_getChar_3b067 : rb_cS yJ2_getChar_3b067 cJ2_getChar_3b067 2 (some .char) 2 := ⟨List.mem_of_getElem? (i := 574) (by decide +kernel), wI_J2, List.mem_of_getElem? (i := 575) (by decide +kernel), by decide +kernel, by decide⟩
theorem cvJ2_length_9d52b : rb_cS yJ2_length_9d52b cJ2_length_9d52b 1 (some .int) 1 := ⟨List.mem_of_getElem? (i := 570) (by decide +kernel), wI_J2, List.mem_of_getElem? (i := 571) (by decide +kernel), by decide +kernel, by decide⟩
theorem cvJ2_charAt_3b067 : rb_cS yJ2_charAt_3b067 cJ2_charAt_3b067 2 (some .char) 2 := ⟨List.mem_of_getElem? (i := 564) (by decide +kernel), wI_J2, List.mem_of_getElem? (i := 565) (by decide +kernel), by decide +kernel, by decide⟩
theorem cvJ2_checkIndex_2214a : rb_cS yJ2_checkIndex_2214a cJ2_checkIndex_2214a 2 none 2 := ⟨List.mem_of_getElem? (i := 567) (by decide +kernel), wI_J2, List.mem_of_getElem? (i := 568) (by decide +kernel), by decide +kernel, by decide⟩
theorem fX4_10 : rb_FL RX4 10 3 0 := ⟨_, rfl, by decide, Or.inl (List.mem_of_getElem? (i := 196) (by decide +kernel))⟩
theorem fX4_16 : rb_FL RX4 16 3 1 := ⟨_, rfl, by decide, Or.inl (List.mem_of_getElem? (i := 197) (by decide +kernel))⟩
theorem fX4_19 : rb_FL RX4 19 3 2 := ⟨_, rfl, by decide, Or.inl (List.mem_of_getElem? (i := 198) (by decide +kernel))⟩
theorem fX4_22 : rb_FL RX4 22 3 3 := ⟨_, rfl, by decide, Or.inl (List.mem_of_getElem? (i := 199) (by decide +kernel))⟩
theorem fX4_29 : rb_FL RX4 29 3 4 := ⟨_, rfl, by decide, Or.inl (List.mem_of_getElem? (i := 200) (by decide +kernel))⟩
theorem fX4_35 : rb_FL RX4 35 3 5 := ⟨_, rfl, by decide, Or.inl (List.mem_of_getElem? (i := 201) (by decide +kernel))⟩
theorem fX4_39 : rb_FL RX4 39 3 6 := ⟨_, rfl, by decide, Or.inl (List.mem_of_getElem? (i := 202) (by decide +kernel))⟩
theorem mX4_44 : Cond.methodLink RX4 44 yX4_isHouse ∈ lw_tbl := List.mem_of_getElem? (i := 222) (by decide +kernel)
theorem mX4_48 : Cond.methodLink RX4 48 yX4_mostOfHouse ∈ lw_tbl := List.mem_of_getElem? (i := 225) (by decide +kernel)
theorem mX4_52 : Cond.methodLink RX4 52 yX4_isWithin ∈ lw_tbl := List.mem_of_getElem? (i := 228) (by decide +kernel)
theorem kX4_56 : Cond.constant RX4 56 (-1000000001) ∈ lw_tbl := List.mem_of_getElem? (i := 231) (by decide +kernel)
theorem mX4_57 : Cond.methodLink RX4 57 yX4_finding ∈ lw_tbl := List.mem_of_getElem? (i := 232) (by decide +kernel)
theorem fX4_60 : rb_FL RX4 60 2 0 := ⟨_, rfl, by decide, Or.inr ⟨"RumourBeds", List.mem_of_getElem? (i := 96) (by decide +kernel)⟩⟩
theorem fX4_63 : rb_FL RX4 63 2 1 := ⟨_, rfl, by decide, Or.inr ⟨"RumourBeds", List.mem_of_getElem? (i := 99) (by decide +kernel)⟩⟩
theorem fX4_66 : rb_FL RX4 66 2 2 := ⟨_, rfl, by decide, Or.inr ⟨"RumourBeds", List.mem_of_getElem? (i := 102) (by decide +kernel)⟩⟩
theorem mX4_69 : Cond.methodLink RX4 69 yX3_thoseIn ∈ lw_tbl := List.mem_of_getElem? (i := 240) (by decide +kernel)
theorem mX4_72 : Cond.methodLink RX4 72 yX3_eventsIn ∈ lw_tbl := List.mem_of_getElem? (i := 244) (by decide +kernel)
theorem mX4_75 : Cond.methodLink RX4 75 yX3_eatenIn ∈ lw_tbl := List.mem_of_getElem? (i := 248) (by decide +kernel)
theorem mX4_78 : Cond.methodLink RX4 78 yX4_isKind ∈ lw_tbl := List.mem_of_getElem? (i := 266) (by decide +kernel)
theorem mX4_81 : Cond.methodLink RX4 81 yX4_isEvent ∈ lw_tbl := List.mem_of_getElem? (i := 269) (by decide +kernel)
theorem mX4_84 : Cond.methodLink RX4 84 yX3_isFull ∈ lw_tbl := List.mem_of_getElem? (i := 272) (by decide +kernel)
theorem kX4_88 : Cond.constant RX4 88 (-1000000002) ∈ lw_tbl := List.mem_of_getElem? (i := 276) (by decide +kernel)
theorem mX4_89 : Cond.methodLink RX4 89 yX3_addOne ∈ lw_tbl := List.mem_of_getElem? (i := 277) (by decide +kernel)
theorem mX4_93 : Cond.methodLink RX4 93 yX4_isRumour ∈ lw_tbl := List.mem_of_getElem? (i := 286) (by decide +kernel)
theorem fX4_96 : rb_FL RX4 96 2 5 := ⟨_, rfl, by decide, Or.inr ⟨"RumourBeds", List.mem_of_getElem? (i := 109) (by decide +kernel)⟩⟩
theorem fX4_99 : rb_FL RX4 99 2 6 := ⟨_, rfl, by decide, Or.inr ⟨"RumourBeds", List.mem_of_getElem? (i := 111) (by decide +kernel)⟩⟩
theorem fX4_102 : rb_FL RX4 102 2 7 := ⟨_, rfl, by decide, Or.inr ⟨"RumourBeds", List.mem_of_getElem? (i := 113) (by decide +kernel)⟩⟩
theorem fX4_105 : rb_FL RX4 105 2 8 := ⟨_, rfl, by decide, Or.inr ⟨"RumourBeds", List.mem_of_getElem? (i := 116) (by decide +kernel)⟩⟩
theorem fX4_108 : rb_FL RX4 108 2 9 := ⟨_, rfl, by decide, Or.inr ⟨"RumourBeds", List.mem_of_getElem? (i := 118) (by decide +kernel)⟩⟩
theorem mX4_111 : Cond.methodLink RX4 111 yX3_eatsOf ∈ lw_tbl := List.mem_of_getElem? (i := 290) (by decide +kernel)
theorem mX4_114 : Cond.methodLink RX4 114 yX3_needsOf ∈ lw_tbl := List.mem_of_getElem? (i := 291) (by decide +kernel)
theorem mX4_117 : Cond.methodLink RX4 117 yX3_growsOf ∈ lw_tbl := List.mem_of_getElem? (i := 298) (by decide +kernel)
theorem mX4_120 : Cond.methodLink RX4 120 yX4_mostOfRumour ∈ lw_tbl := List.mem_of_getElem? (i := 309) (by decide +kernel)
theorem mX4_123 : Cond.methodLink RX4 123 yX0_isUnder ∈ lw_tbl := List.mem_of_getElem? (i := 320) (by decide +kernel)
theorem kX4_128 : Cond.constant RX4 128 (-1000000003) ∈ lw_tbl := List.mem_of_getElem? (i := 325) (by decide +kernel)
theorem mX4_129 : Cond.methodLink RX4 129 yX3_wouldTake ∈ lw_tbl := List.mem_of_getElem? (i := 330) (by decide +kernel)
theorem mX4_132 : Cond.methodLink RX4 132 yX3_isTrue ∈ lw_tbl := List.mem_of_getElem? (i := 342) (by decide +kernel)
theorem kX4_135 : Cond.constant RX4 135 (-1000000005) ∈ lw_tbl := List.mem_of_getElem? (i := 346) (by decide +kernel)
theorem mX4_136 : Cond.methodLink RX4 136 yX3_hostFor ∈ lw_tbl := List.mem_of_getElem? (i := 347) (by decide +kernel)
theorem mX4_139 : Cond.methodLink RX4 139 yX3_lodge ∈ lw_tbl := List.mem_of_getElem? (i := 354) (by decide +kernel)
theorem mX4_143 : Cond.methodLink RX4 143 yX3_improveBy ∈ lw_tbl := List.mem_of_getElem? (i := 362) (by decide +kernel)
theorem mX4_146 : Cond.methodLink RX4 146 yX3_becomeTrue ∈ lw_tbl := List.mem_of_getElem? (i := 374) (by decide +kernel)
theorem fX4_149 : rb_FL RX4 149 2 11 := ⟨_, rfl, by decide, Or.inr ⟨"RumourBeds", List.mem_of_getElem? (i := 122) (by decide +kernel)⟩⟩
theorem fX4_153 : rb_FL RX4 153 2 10 := ⟨_, rfl, by decide, Or.inr ⟨"RumourBeds", List.mem_of_getElem? (i := 120) (by decide +kernel)⟩⟩
theorem mX4_156 : Cond.methodLink RX4 156 yX3_passDays ∈ lw_tbl := List.mem_of_getElem? (i := 386) (by decide +kernel)
theorem fX4_160 : rb_FL RX4 160 2 4 := ⟨_, rfl, by decide, Or.inr ⟨"RumourBeds", List.mem_of_getElem? (i := 107) (by decide +kernel)⟩⟩
theorem mX4_163 : Cond.methodLink RX4 163 yX3_bulkOfAll ∈ lw_tbl := List.mem_of_getElem? (i := 417) (by decide +kernel)
theorem mX4_167 : Cond.methodLink RX4 167 yX4_sumOf ∈ lw_tbl := List.mem_of_getElem? (i := 421) (by decide +kernel)
theorem mX4_171 : Cond.methodLink RX4 171 yX3_freeBeds ∈ lw_tbl := List.mem_of_getElem? (i := 424) (by decide +kernel)
theorem mX4_174 : Cond.methodLink RX4 174 yX3_eatenInAll ∈ lw_tbl := List.mem_of_getElem? (i := 429) (by decide +kernel)
theorem mX4_177 : Cond.methodLink RX4 177 yX3_becomes ∈ lw_tbl := List.mem_of_getElem? (i := 438) (by decide +kernel)
theorem mX4_181 : Cond.methodLink RX4 181 yX3_passDay ∈ lw_tbl := List.mem_of_getElem? (i := 453) (by decide +kernel)
theorem kX4_184 : Cond.constant RX4 184 (-1000000004) ∈ lw_tbl := List.mem_of_getElem? (i := 454) (by decide +kernel)
theorem mX4_185 : Cond.methodLink RX4 185 yX3_hasBedFree ∈ lw_tbl := List.mem_of_getElem? (i := 479) (by decide +kernel)
theorem mX4_188 : Cond.methodLink RX4 188 yX0_eats ∈ lw_tbl := List.mem_of_getElem? (i := 488) (by decide +kernel)
theorem fX4_191 : rb_FL RX4 191 1 1 := ⟨_, rfl, by decide, Or.inr ⟨"RumourBeds", List.mem_of_getElem? (i := 157) (by decide +kernel)⟩⟩
theorem mX4_194 : Cond.methodLink RX4 194 yX2_addByte ∈ lw_tbl := List.mem_of_getElem? (i := 501) (by decide +kernel)
theorem mX4_197 : Cond.methodLink RX4 197 yX2_tellTo ∈ lw_tbl := List.mem_of_getElem? (i := 513) (by decide +kernel)
theorem mX4_201 : Cond.methodLink RX4 201 yX4_isSheet ∈ lw_tbl := List.mem_of_getElem? (i := 636) (by decide +kernel)
theorem kX4_204 : Cond.constant RX4 204 (-1000000007) ∈ lw_tbl := List.mem_of_getElem? (i := 639) (by decide +kernel)
theorem mX4_205 : Cond.methodLink RX4 205 yX1_begin ∈ lw_tbl := List.mem_of_getElem? (i := 640) (by decide +kernel)
theorem fX4_208 : rb_FL RX4 208 0 1 := ⟨_, rfl, by decide, Or.inr ⟨"RumourBeds", List.mem_of_getElem? (i := 185) (by decide +kernel)⟩⟩
theorem mX4_209 : Cond.methodLink RX4 209 yX1_isMissing ∈ lw_tbl := List.mem_of_getElem? (i := 648) (by decide +kernel)
theorem kX4_212 : Cond.constant RX4 212 (-1000000006) ∈ lw_tbl := List.mem_of_getElem? (i := 652) (by decide +kernel)
theorem fX4_213 : rb_FL RX4 213 0 2 := ⟨_, rfl, by decide, Or.inr ⟨"RumourBeds", List.mem_of_getElem? (i := 187) (by decide +kernel)⟩⟩
theorem mX4_217 : Cond.methodLink RX4 217 yX1_put ∈ lw_tbl := List.mem_of_getElem? (i := 653) (by decide +kernel)
theorem fX4_221 : rb_FL RX4 221 0 0 := ⟨_, rfl, by decide, Or.inr ⟨"RumourBeds", List.mem_of_getElem? (i := 183) (by decide +kernel)⟩⟩
theorem mX4_224 : Cond.methodLink RX4 224 yX1_hasRange ∈ lw_tbl := List.mem_of_getElem? (i := 661) (by decide +kernel)
theorem mX4_227 : Cond.methodLink RX4 227 ⟨"java/lang/System", "arraycopy", "(Ljava/lang/Object;ILjava/lang/Object;II)V"⟩ ∈ lw_tbl := List.mem_of_getElem? (i := 665) (by decide +kernel)
theorem kX4_233 : Cond.constantLong RX4 233 (9) ∈ lw_tbl := List.mem_of_getElem? (i := 670) (by decide +kernel)
theorem mX4_235 : Cond.methodLink RX4 235 yX4_findingOfBook ∈ lw_tbl := List.mem_of_getElem? (i := 675) (by decide +kernel)
theorem mX4_239 : Cond.methodLink RX4 239 yX4_isBookOf ∈ lw_tbl := List.mem_of_getElem? (i := 683) (by decide +kernel)
theorem fX4_243 : rb_FL RX4 243 2 3 := ⟨_, rfl, by decide, Or.inr ⟨"RumourBeds", List.mem_of_getElem? (i := 105) (by decide +kernel)⟩⟩
theorem fX5_7 : rb_FL RX5 7 4 0 := ⟨_, rfl, by decide, Or.inl (List.mem_of_getElem? (i := 716) (by decide +kernel))⟩
theorem fX5_13 : rb_FL RX5 13 4 1 := ⟨_, rfl, by decide, Or.inl (List.mem_of_getElem? (i := 717) (by decide +kernel))⟩
theorem fX5_16 : rb_FL RX5 16 4 2 := ⟨_, rfl, by decide, Or.inl (List.mem_of_getElem? (i := 718) (by decide +kernel))⟩
theorem fX5_19 : rb_FL RX5 19 4 3 := ⟨_, rfl, by decide, Or.inl (List.mem_of_getElem? (i := 719) (by decide +kernel))⟩
theorem fX5_22 : rb_FL RX5 22 4 4 := ⟨_, rfl, by decide, Or.inl (List.mem_of_getElem? (i := 720) (by decide +kernel))⟩
theorem fX5_25 : rb_FL RX5 25 4 6 := ⟨_, rfl, by decide, Or.inl (List.mem_of_getElem? (i := 722) (by decide +kernel))⟩
theorem fX5_28 : rb_FL RX5 28 4 12 := ⟨_, rfl, by decide, Or.inl (List.mem_of_getElem? (i := 728) (by decide +kernel))⟩
theorem fX5_31 : rb_FL RX5 31 4 13 := ⟨_, rfl, by decide, Or.inl (List.mem_of_getElem? (i := 729) (by decide +kernel))⟩
theorem fX5_34 : rb_FL RX5 34 4 14 := ⟨_, rfl, by decide, Or.inl (List.mem_of_getElem? (i := 730) (by decide +kernel))⟩
theorem fX5_38 : rb_FL RX5 38 4 15 := ⟨_, rfl, by decide, Or.inl (List.mem_of_getElem? (i := 731) (by decide +kernel))⟩
theorem mX5_41 : Cond.methodLink RX5 41 yX5_partOf ∈ lw_tbl := List.mem_of_getElem? (i := 713) (by decide +kernel)
theorem kX5_45 : Cond.constant RX5 45 (-1000000001) ∈ lw_tbl := List.mem_of_getElem? (i := 784) (by decide +kernel)
theorem kX5_46 : Cond.constantLong RX5 46 (7) ∈ lw_tbl := List.mem_of_getElem? (i := 779) (by decide +kernel)
theorem mX5_48 : Cond.methodLink RX5 48 yX5_in ∈ lw_tbl := List.mem_of_getElem? (i := 770) (by decide +kernel)
theorem kX5_52 : Cond.constantLong RX5 52 (5) ∈ lw_tbl := List.mem_of_getElem? (i := 793) (by decide +kernel)
theorem kX5_54 : Cond.constantLong RX5 54 (15) ∈ lw_tbl := List.mem_of_getElem? (i := 831) (by decide +kernel)
theorem mX5_56 : Cond.methodLink RX5 56 yX5_spotOf ∈ lw_tbl := List.mem_of_getElem? (i := 806) (by decide +kernel)
theorem kX5_59 : Cond.constantLong RX5 59 (2) ∈ lw_tbl := List.mem_of_getElem? (i := 769) (by decide +kernel)
theorem kX5_61 : Cond.constantLong RX5 61 (3) ∈ lw_tbl := List.mem_of_getElem? (i := 773) (by decide +kernel)
theorem kX5_63 : Cond.constantLong RX5 63 (999) ∈ lw_tbl := List.mem_of_getElem? (i := 774) (by decide +kernel)
theorem kX5_65 : Cond.constantLong RX5 65 (9) ∈ lw_tbl := List.mem_of_getElem? (i := 775) (by decide +kernel)
theorem mX5_67 : Cond.methodLink RX5 67 yX5_isHouse ∈ lw_tbl := List.mem_of_getElem? (i := 776) (by decide +kernel)
theorem mX5_71 : Cond.methodLink RX5 71 yX5_becomes ∈ lw_tbl := List.mem_of_getElem? (i := 780) (by decide +kernel)
theorem mX5_74 : Cond.methodLink RX5 74 yX5_finds ∈ lw_tbl := List.mem_of_getElem? (i := 785) (by decide +kernel)
theorem mX5_78 : Cond.methodLink RX5 78 yX5_its ∈ lw_tbl := List.mem_of_getElem? (i := 802) (by decide +kernel)
theorem mX5_81 : Cond.methodLink RX5 81 yX5_eats ∈ lw_tbl := List.mem_of_getElem? (i := 817) (by decide +kernel)
theorem mX5_84 : Cond.methodLink RX5 84 yX5_has ∈ lw_tbl := List.mem_of_getElem? (i := 794) (by decide +kernel)
theorem mX5_87 : Cond.methodLink RX5 87 yX5_thoseAt ∈ lw_tbl := List.mem_of_getElem? (i := 798) (by decide +kernel)
theorem mX5_90 : Cond.methodLink RX5 90 yX5_eventsAt ∈ lw_tbl := List.mem_of_getElem? (i := 809) (by decide +kernel)
theorem mX5_93 : Cond.methodLink RX5 93 yX5_eatenAt ∈ lw_tbl := List.mem_of_getElem? (i := 813) (by decide +kernel)
theorem mX5_96 : Cond.methodLink RX5 96 yX5_isKind ∈ lw_tbl := List.mem_of_getElem? (i := 825) (by decide +kernel)
theorem mX5_99 : Cond.methodLink RX5 99 yX5_isEvent ∈ lw_tbl := List.mem_of_getElem? (i := 828) (by decide +kernel)
theorem kX5_102 : Cond.constant RX5 102 (-1000000002) ∈ lw_tbl := List.mem_of_getElem? (i := 832) (by decide +kernel)
theorem mX5_103 : Cond.methodLink RX5 103 yX5_adds ∈ lw_tbl := List.mem_of_getElem? (i := 833) (by decide +kernel)
theorem mX5_106 : Cond.methodLink RX5 106 yX5_isRumour ∈ lw_tbl := List.mem_of_getElem? (i := 841) (by decide +kernel)
theorem mX5_109 : Cond.methodLink RX5 109 yX5_needs ∈ lw_tbl := List.mem_of_getElem? (i := 845) (by decide +kernel)
theorem mX5_112 : Cond.methodLink RX5 112 yX5_grows ∈ lw_tbl := List.mem_of_getElem? (i := 849) (by decide +kernel)
theorem kX5_115 : Cond.constantLong RX5 115 (99) ∈ lw_tbl := List.mem_of_getElem? (i := 857) (by decide +kernel)
theorem mX5_117 : Cond.methodLink RX5 117 yX5_isUnder ∈ lw_tbl := List.mem_of_getElem? (i := 866) (by decide +kernel)
theorem kX5_121 : Cond.constant RX5 121 (-1000000003) ∈ lw_tbl := List.mem_of_getElem? (i := 869) (by decide +kernel)
theorem mX5_122 : Cond.methodLink RX5 122 yX5_ones ∈ lw_tbl := List.mem_of_getElem? (i := 882) (by decide +kernel)
theorem mX5_125 : Cond.methodLink RX5 125 yX5_isFree ∈ lw_tbl := List.mem_of_getElem? (i := 878) (by decide +kernel)
theorem mX5_128 : Cond.methodLink RX5 128 yX5_isTaken ∈ lw_tbl := List.mem_of_getElem? (i := 874) (by decide +kernel)
theorem mX5_131 : Cond.methodLink RX5 131 yX5_isTrue ∈ lw_tbl := List.mem_of_getElem? (i := 889) (by decide +kernel)
theorem kX5_134 : Cond.constant RX5 134 (-1000000005) ∈ lw_tbl := List.mem_of_getElem? (i := 893) (by decide +kernel)
theorem mX5_135 : Cond.methodLink RX5 135 yX5_hostOf ∈ lw_tbl := List.mem_of_getElem? (i := 894) (by decide +kernel)
theorem mX5_138 : Cond.methodLink RX5 138 yX5_heldTo ∈ lw_tbl := List.mem_of_getElem? (i := 907) (by decide +kernel)
theorem kX5_141 : Cond.constantLong RX5 141 (20) ∈ lw_tbl := List.mem_of_getElem? (i := 902) (by decide +kernel)
theorem mX5_143 : Cond.methodLink RX5 143 yX5_isImproved ∈ lw_tbl := List.mem_of_getElem? (i := 903) (by decide +kernel)
theorem mX5_147 : Cond.methodLink RX5 147 yX5_becomesTrue ∈ lw_tbl := List.mem_of_getElem? (i := 914) (by decide +kernel)
theorem mX5_150 : Cond.methodLink RX5 150 yX5_lodgersOf ∈ lw_tbl := List.mem_of_getElem? (i := 943) (by decide +kernel)
theorem mX5_153 : Cond.methodLink RX5 153 yX5_isOnRoad ∈ lw_tbl := List.mem_of_getElem? (i := 947) (by decide +kernel)
theorem mX5_156 : Cond.methodLink RX5 156 yX5_feeds ∈ lw_tbl := List.mem_of_getElem? (i := 935) (by decide +kernel)
theorem mX5_160 : Cond.methodLink RX5 160 yX5_makesThird ∈ lw_tbl := List.mem_of_getElem? (i := 939) (by decide +kernel)
theorem mX5_163 : Cond.methodLink RX5 163 yX5_day ∈ lw_tbl := List.mem_of_getElem? (i := 931) (by decide +kernel)
theorem kX5_166 : Cond.constantLong RX5 166 (60) ∈ lw_tbl := List.mem_of_getElem? (i := 926) (by decide +kernel)
theorem mX5_168 : Cond.methodLink RX5 168 yX5_daysGo ∈ lw_tbl := List.mem_of_getElem? (i := 927) (by decide +kernel)
theorem mX5_171 : Cond.methodLink RX5 171 yX5_bulks ∈ lw_tbl := List.mem_of_getElem? (i := 955) (by decide +kernel)
theorem mX5_175 : Cond.methodLink RX5 175 yX5_larders ∈ lw_tbl := List.mem_of_getElem? (i := 959) (by decide +kernel)
theorem mX5_178 : Cond.methodLink RX5 178 yX5_freeBeds ∈ lw_tbl := List.mem_of_getElem? (i := 963) (by decide +kernel)
theorem mX5_181 : Cond.methodLink RX5 181 yX5_eaten ∈ lw_tbl := List.mem_of_getElem? (i := 967) (by decide +kernel)
theorem mX5_184 : Cond.methodLink RX5 184 yX5_laysAside ∈ lw_tbl := List.mem_of_getElem? (i := 982) (by decide +kernel)
theorem mX5_187 : Cond.methodLink RX5 187 yX5_takesBack ∈ lw_tbl := List.mem_of_getElem? (i := 986) (by decide +kernel)
theorem mX5_190 : Cond.methodLink RX5 190 yX5_isAhead ∈ lw_tbl := List.mem_of_getElem? (i := 975) (by decide +kernel)
theorem mX5_193 : Cond.methodLink RX5 193 yX5_behind ∈ lw_tbl := List.mem_of_getElem? (i := 978) (by decide +kernel)
theorem kX5_196 : Cond.constant RX5 196 (-1000000004) ∈ lw_tbl := List.mem_of_getElem? (i := 1002) (by decide +kernel)
theorem mX5_197 : Cond.methodLink RX5 197 yX5_firstAs ∈ lw_tbl := List.mem_of_getElem? (i := 998) (by decide +kernel)
theorem mX5_200 : Cond.methodLink RX5 200 yX5_wrongLodger ∈ lw_tbl := List.mem_of_getElem? (i := 1015) (by decide +kernel)
theorem mX5_203 : Cond.methodLink RX5 203 yX5_isSoon ∈ lw_tbl := List.mem_of_getElem? (i := 1027) (by decide +kernel)
theorem kX5_206 : Cond.constantLong RX5 206 (4) ∈ lw_tbl := List.mem_of_getElem? (i := 1054) (by decide +kernel)
theorem fX5_208 : rb_FL RX5 208 4 7 := ⟨_, rfl, by decide, Or.inl (List.mem_of_getElem? (i := 723) (by decide +kernel))⟩
theorem kX5_212 : Cond.constantLong RX5 212 (97) ∈ lw_tbl := List.mem_of_getElem? (i := 1078) (by decide +kernel)
theorem kX5_214 : Cond.constantLong RX5 214 (122) ∈ lw_tbl := List.mem_of_getElem? (i := 1079) (by decide +kernel)
theorem kX5_216 : Cond.constantLong RX5 216 (48) ∈ lw_tbl := List.mem_of_getElem? (i := 1083) (by decide +kernel)
theorem kX5_218 : Cond.constantLong RX5 218 (57) ∈ lw_tbl := List.mem_of_getElem? (i := 1084) (by decide +kernel)
theorem fX5_220 : rb_FL RX5 220 4 9 := ⟨_, rfl, by decide, Or.inl (List.mem_of_getElem? (i := 725) (by decide +kernel))⟩
theorem fX5_223 : rb_FL RX5 223 4 8 := ⟨_, rfl, by decide, Or.inl (List.mem_of_getElem? (i := 724) (by decide +kernel))⟩
theorem mX5_226 : Cond.methodLink RX5 226 yX5_byteAt ∈ lw_tbl := List.mem_of_getElem? (i := 1071) (by decide +kernel)
theorem mX5_229 : Cond.methodLink RX5 229 yX5_isLetter ∈ lw_tbl := List.mem_of_getElem? (i := 1075) (by decide +kernel)
theorem mX5_232 : Cond.methodLink RX5 232 yX5_isDigit ∈ lw_tbl := List.mem_of_getElem? (i := 1080) (by decide +kernel)
theorem fX5_235 : rb_FL RX5 235 4 11 := ⟨_, rfl, by decide, Or.inl (List.mem_of_getElem? (i := 727) (by decide +kernel))⟩
theorem mX5_239 : Cond.methodLink RX5 239 yX5_token ∈ lw_tbl := List.mem_of_getElem? (i := 1067) (by decide +kernel)
theorem kX5_242 : Cond.constantLong RX5 242 (36028797018963967) ∈ lw_tbl := List.mem_of_getElem? (i := 1097) (by decide +kernel)
theorem kX5_244 : Cond.constantLong RX5 244 (32) ∈ lw_tbl := List.mem_of_getElem? (i := 1098) (by decide +kernel)
theorem fX5_246 : rb_FL RX5 246 4 10 := ⟨_, rfl, by decide, Or.inl (List.mem_of_getElem? (i := 726) (by decide +kernel))⟩
theorem mX5_249 : Cond.methodLink RX5 249 yX5_must ∈ lw_tbl := List.mem_of_getElem? (i := 1109) (by decide +kernel)
theorem mX5_253 : Cond.methodLink RX5 253 yX5_word ∈ lw_tbl := List.mem_of_getElem? (i := 1093) (by decide +kernel)
theorem kX5_257 : Cond.constantLong RX5 257 (626441906) ∈ lw_tbl := List.mem_of_getElem? (i := 1099) (by decide +kernel)
theorem kX5_259 : Cond.constantLong RX5 259 (2343) ∈ lw_tbl := List.mem_of_getElem? (i := 1100) (by decide +kernel)
theorem kX5_261 : Cond.constantLong RX5 261 (152972) ∈ lw_tbl := List.mem_of_getElem? (i := 1101) (by decide +kernel)
theorem kX5_263 : Cond.constantLong RX5 263 (19737) ∈ lw_tbl := List.mem_of_getElem? (i := 1102) (by decide +kernel)
theorem kX5_265 : Cond.constantLong RX5 265 (19391532) ∈ lw_tbl := List.mem_of_getElem? (i := 1103) (by decide +kernel)
theorem kX5_267 : Cond.constantLong RX5 267 (24293779) ∈ lw_tbl := List.mem_of_getElem? (i := 1104) (by decide +kernel)
theorem mX5_269 : Cond.methodLink RX5 269 yX5_number ∈ lw_tbl := List.mem_of_getElem? (i := 1114) (by decide +kernel)
theorem kX5_272 : Cond.constantLong RX5 272 (486) ∈ lw_tbl := List.mem_of_getElem? (i := 1113) (by decide +kernel)
theorem kX5_274 : Cond.constantLong RX5 274 (87435) ∈ lw_tbl := List.mem_of_getElem? (i := 1118) (by decide +kernel)
theorem mX5_276 : Cond.methodLink RX5 276 yX5_partItem ∈ lw_tbl := List.mem_of_getElem? (i := 1119) (by decide +kernel)
theorem kX5_280 : Cond.constantLong RX5 280 (302) ∈ lw_tbl := List.mem_of_getElem? (i := 1123) (by decide +kernel)
theorem mX5_282 : Cond.methodLink RX5 282 yX5_peeked ∈ lw_tbl := List.mem_of_getElem? (i := 1124) (by decide +kernel)
theorem kX5_285 : Cond.constantLong RX5 285 (70803) ∈ lw_tbl := List.mem_of_getElem? (i := 1133) (by decide +kernel)
theorem kX5_287 : Cond.constantLong RX5 287 (404295858) ∈ lw_tbl := List.mem_of_getElem? (i := 1134) (by decide +kernel)
theorem kX5_289 : Cond.constantLong RX5 289 (12748243) ∈ lw_tbl := List.mem_of_getElem? (i := 1135) (by decide +kernel)
theorem mX5_291 : Cond.methodLink RX5 291 yX5_kindHere ∈ lw_tbl := List.mem_of_getElem? (i := 1089) (by decide +kernel)
theorem mX5_294 : Cond.methodLink RX5 294 yX5_rumourItem ∈ lw_tbl := List.mem_of_getElem? (i := 1105) (by decide +kernel)
theorem kX5_297 : Cond.constantLong RX5 297 (8902245) ∈ lw_tbl := List.mem_of_getElem? (i := 1128) (by decide +kernel)
theorem mX5_299 : Cond.methodLink RX5 299 yX5_houseItem ∈ lw_tbl := List.mem_of_getElem? (i := 1129) (by decide +kernel)
theorem kX5_302 : Cond.constantLong RX5 302 (674469) ∈ lw_tbl := List.mem_of_getElem? (i := 1136) (by decide +kernel)
theorem mX5_304 : Cond.methodLink RX5 304 yX5_saves ∈ lw_tbl := List.mem_of_getElem? (i := 1063) (by decide +kernel)
theorem mX5_307 : Cond.methodLink RX5 307 yX5_item ∈ lw_tbl := List.mem_of_getElem? (i := 1085) (by decide +kernel)
theorem mX5_310 : Cond.methodLink RX5 310 yX5_putsBack ∈ lw_tbl := List.mem_of_getElem? (i := 1137) (by decide +kernel)
theorem mX5_313 : Cond.methodLink RX5 313 yX5_isOne ∈ lw_tbl := List.mem_of_getElem? (i := 1145) (by decide +kernel)
theorem kX5_316 : Cond.constant RX5 316 (-1000000007) ∈ lw_tbl := List.mem_of_getElem? (i := 1148) (by decide +kernel)
theorem kX5_317 : Cond.constant RX5 317 (-1000000006) ∈ lw_tbl := List.mem_of_getElem? (i := 1157) (by decide +kernel)
theorem mX5_318 : Cond.methodLink RX5 318 yX5_wrongSheet ∈ lw_tbl := List.mem_of_getElem? (i := 1153) (by decide +kernel)
theorem mX5_321 : Cond.methodLink RX5 321 yX5_narrowed ∈ lw_tbl := List.mem_of_getElem? (i := 1158) (by decide +kernel)
theorem mX5_325 : Cond.methodLink RX5 325 yX5_wrongBook ∈ lw_tbl := List.mem_of_getElem? (i := 1173) (by decide +kernel)
theorem mX5_328 : Cond.methodLink RX5 328 yX5_isBook ∈ lw_tbl := List.mem_of_getElem? (i := 1181) (by decide +kernel)
theorem fX5_331 : rb_FL RX5 331 4 5 := ⟨_, rfl, by decide, Or.inl (List.mem_of_getElem? (i := 721) (by decide +kernel))⟩
theorem mX5_334 : Cond.methodLink RX5 334 yX5_bedsAll ∈ lw_tbl := List.mem_of_getElem? (i := 1201) (by decide +kernel)
theorem kX5_337 : Cond.constantLong RX5 337 (-1) ∈ lw_tbl := List.mem_of_getElem? (i := 1209) (by decide +kernel)
theorem kX5_339 : Cond.constantLong RX5 339 (6) ∈ lw_tbl := List.mem_of_getElem? (i := 1210) (by decide +kernel)
theorem mX0_13 : Cond.methodLink RX0 13 yJ9_max_7cf53 ∈ lw_tbl := List.mem_of_getElem? (i := 259) (by decide +kernel)
theorem fX1_7 : rb_FL RX1 7 0 0 := ⟨_, rfl, by decide, Or.inl (List.mem_of_getElem? (i := 182) (by decide +kernel))⟩
theorem fX1_13 : rb_FL RX1 13 0 1 := ⟨_, rfl, by decide, Or.inl (List.mem_of_getElem? (i := 184) (by decide +kernel))⟩
theorem fX1_16 : rb_FL RX1 16 0 2 := ⟨_, rfl, by decide, Or.inl (List.mem_of_getElem? (i := 186) (by decide +kernel))⟩
theorem fX2_11 : rb_FL RX2 11 1 0 := ⟨_, rfl, by decide, Or.inl (List.mem_of_getElem? (i := 155) (by decide +kernel))⟩
theorem fX2_15 : rb_FL RX2 15 1 1 := ⟨_, rfl, by decide, Or.inl (List.mem_of_getElem? (i := 156) (by decide +kernel))⟩
theorem fX2_19 : rb_FL RX2 19 1 2 := ⟨_, rfl, by decide, Or.inl (List.mem_of_getElem? (i := 158) (by decide +kernel))⟩
theorem fX2_22 : rb_FL RX2 22 1 3 := ⟨_, rfl, by decide, Or.inl (List.mem_of_getElem? (i := 159) (by decide +kernel))⟩
theorem fX2_25 : rb_FL RX2 25 1 4 := ⟨_, rfl, by decide, Or.inl (List.mem_of_getElem? (i := 160) (by decide +kernel))⟩
theorem fX2_28 : rb_FL RX2 28 1 5 := ⟨_, rfl, by decide, Or.inl (List.mem_of_getElem? (i := 161) (by decide +kernel))⟩
theorem mX2_31 : Cond.methodLink RX2 31 yX2_nextToken ∈ lw_tbl := List.mem_of_getElem? (i := 517) (by decide +kernel)
theorem mX2_34 : Cond.methodLink RX2 34 yX2_tellItem ∈ lw_tbl := List.mem_of_getElem? (i := 525) (by decide +kernel)
theorem mX2_40 : Cond.methodLink RX2 40 yX2_isWord ∈ lw_tbl := List.mem_of_getElem? (i := 530) (by decide +kernel)
theorem mX2_44 : Cond.methodLink RX2 44 yX2_tellHouse ∈ lw_tbl := List.mem_of_getElem? (i := 582) (by decide +kernel)
theorem mX2_49 : Cond.methodLink RX2 49 yX2_tellTrue ∈ lw_tbl := List.mem_of_getElem? (i := 602) (by decide +kernel)
theorem mX2_54 : Cond.methodLink RX2 54 yX0_nameOf ∈ lw_tbl := List.mem_of_getElem? (i := 607) (by decide +kernel)
theorem mX2_58 : Cond.methodLink RX2 58 yX2_tellRumour ∈ lw_tbl := List.mem_of_getElem? (i := 616) (by decide +kernel)
theorem mX2_62 : Cond.methodLink RX2 62 yX2_passNumber ∈ lw_tbl := List.mem_of_getElem? (i := 586) (by decide +kernel)
theorem fX2_68 : rb_FL RX2 68 2 0 := ⟨_, rfl, by decide, Or.inr ⟨"RumourBeds", List.mem_of_getElem? (i := 97) (by decide +kernel)⟩⟩
theorem mX2_72 : Cond.methodLink RX2 72 yX2_tellPart ∈ lw_tbl := List.mem_of_getElem? (i := 595) (by decide +kernel)
theorem fX2_78 : rb_FL RX2 78 2 1 := ⟨_, rfl, by decide, Or.inr ⟨"RumourBeds", List.mem_of_getElem? (i := 100) (by decide +kernel)⟩⟩
theorem fX2_83 : rb_FL RX2 83 2 2 := ⟨_, rfl, by decide, Or.inr ⟨"RumourBeds", List.mem_of_getElem? (i := 103) (by decide +kernel)⟩⟩
theorem mX2_85 : Cond.methodLink RX2 85 yX3_becomeTrue ∈ lw_tbl := List.mem_of_getElem? (i := 606) (by decide +kernel)
theorem mX2_88 : Cond.methodLink RX2 88 yX3_isFull ∈ lw_tbl := List.mem_of_getElem? (i := 620) (by decide +kernel)
theorem mX2_94 : Cond.methodLink RX2 94 yX3_addOne ∈ lw_tbl := List.mem_of_getElem? (i := 622) (by decide +kernel)
theorem fX2_100 : rb_FL RX2 100 2 7 := ⟨_, rfl, by decide, Or.inr ⟨"RumourBeds", List.mem_of_getElem? (i := 114) (by decide +kernel)⟩⟩
theorem mX2_103 : Cond.methodLink RX2 103 yX2_tellLodging ∈ lw_tbl := List.mem_of_getElem? (i := 624) (by decide +kernel)
theorem mX2_106 : Cond.methodLink RX2 106 yX2_isNumber ∈ lw_tbl := List.mem_of_getElem? (i := 590) (by decide +kernel)
theorem mX2_112 : Cond.methodLink RX2 112 yX3_hasBedFree ∈ lw_tbl := List.mem_of_getElem? (i := 629) (by decide +kernel)
theorem mX2_115 : Cond.methodLink RX2 115 yX3_lodge ∈ lw_tbl := List.mem_of_getElem? (i := 630) (by decide +kernel)
theorem mX2_119 : Cond.methodLink RX2 119 yJ0_length_8abf5 ∈ lw_tbl := List.mem_of_getElem? (i := 534) (by decide +kernel)
theorem mX2_124 : Cond.methodLink RX2 124 yJ0_charAt_5068e ∈ lw_tbl := List.mem_of_getElem? (i := 544) (by decide +kernel)
theorem mX2_128 : Cond.methodLink RX2 128 yX2_sortOf ∈ lw_tbl := List.mem_of_getElem? (i := 521) (by decide +kernel)
theorem mX2_131 : Cond.methodLink RX2 131 yJ9_min_7cf53 ∈ lw_tbl := List.mem_of_getElem? (i := 524) (by decide +kernel)
theorem fX3_9 : rb_FL RX3 9 2 0 := ⟨_, rfl, by decide, Or.inl (List.mem_of_getElem? (i := 95) (by decide +kernel))⟩
theorem fX3_15 : rb_FL RX3 15 2 1 := ⟨_, rfl, by decide, Or.inl (List.mem_of_getElem? (i := 98) (by decide +kernel))⟩
theorem fX3_18 : rb_FL RX3 18 2 2 := ⟨_, rfl, by decide, Or.inl (List.mem_of_getElem? (i := 101) (by decide +kernel))⟩
theorem fX3_21 : rb_FL RX3 21 2 3 := ⟨_, rfl, by decide, Or.inl (List.mem_of_getElem? (i := 104) (by decide +kernel))⟩
theorem fX3_24 : rb_FL RX3 24 2 4 := ⟨_, rfl, by decide, Or.inl (List.mem_of_getElem? (i := 106) (by decide +kernel))⟩
theorem fX3_28 : rb_FL RX3 28 2 5 := ⟨_, rfl, by decide, Or.inl (List.mem_of_getElem? (i := 108) (by decide +kernel))⟩
theorem fX3_31 : rb_FL RX3 31 2 6 := ⟨_, rfl, by decide, Or.inl (List.mem_of_getElem? (i := 110) (by decide +kernel))⟩
theorem fX3_34 : rb_FL RX3 34 2 7 := ⟨_, rfl, by decide, Or.inl (List.mem_of_getElem? (i := 112) (by decide +kernel))⟩
theorem fX3_37 : rb_FL RX3 37 2 8 := ⟨_, rfl, by decide, Or.inl (List.mem_of_getElem? (i := 115) (by decide +kernel))⟩
theorem fX3_40 : rb_FL RX3 40 2 9 := ⟨_, rfl, by decide, Or.inl (List.mem_of_getElem? (i := 117) (by decide +kernel))⟩
theorem fX3_43 : rb_FL RX3 43 2 10 := ⟨_, rfl, by decide, Or.inl (List.mem_of_getElem? (i := 119) (by decide +kernel))⟩
theorem fX3_46 : rb_FL RX3 46 2 11 := ⟨_, rfl, by decide, Or.inl (List.mem_of_getElem? (i := 121) (by decide +kernel))⟩
theorem mX3_49 : Cond.methodLink RX3 49 ⟨"java/lang/System", "arraycopy", "(Ljava/lang/Object;ILjava/lang/Object;II)V"⟩ ∈ lw_tbl := List.mem_of_getElem? (i := 442) (by decide +kernel)
theorem mX3_55 : Cond.methodLink RX3 55 yX3_isFull ∈ lw_tbl := List.mem_of_getElem? (i := 281) (by decide +kernel)
theorem mX3_59 : Cond.methodLink RX3 59 yX0_eats ∈ lw_tbl := List.mem_of_getElem? (i := 256) (by decide +kernel)
theorem mX3_65 : Cond.methodLink RX3 65 yX0_needs ∈ lw_tbl := List.mem_of_getElem? (i := 295) (by decide +kernel)
theorem mX3_69 : Cond.methodLink RX3 69 yX0_grows ∈ lw_tbl := List.mem_of_getElem? (i := 302) (by decide +kernel)
theorem mX3_72 : Cond.methodLink RX3 72 yX3_hasBedFree ∈ lw_tbl := List.mem_of_getElem? (i := 334) (by decide +kernel)
theorem mX3_76 : Cond.methodLink RX3 76 yX3_isTrue ∈ lw_tbl := List.mem_of_getElem? (i := 351) (by decide +kernel)
theorem mX3_79 : Cond.methodLink RX3 79 yX3_needsOf ∈ lw_tbl := List.mem_of_getElem? (i := 352) (by decide +kernel)
theorem mX3_83 : Cond.methodLink RX3 83 yX3_wouldTake ∈ lw_tbl := List.mem_of_getElem? (i := 353) (by decide +kernel)
theorem mX3_87 : Cond.methodLink RX3 87 yJ9_min_7cf53 ∈ lw_tbl := List.mem_of_getElem? (i := 366) (by decide +kernel)
theorem mX3_92 : Cond.methodLink RX3 92 yX3_lodge ∈ lw_tbl := List.mem_of_getElem? (i := 369) (by decide +kernel)
theorem mX3_96 : Cond.methodLink RX3 96 yX3_passDay ∈ lw_tbl := List.mem_of_getElem? (i := 390) (by decide +kernel)
theorem mX3_99 : Cond.methodLink RX3 99 yX3_feedOne ∈ lw_tbl := List.mem_of_getElem? (i := 394) (by decide +kernel)
theorem mX3_103 : Cond.methodLink RX3 103 yX3_makeThird ∈ lw_tbl := List.mem_of_getElem? (i := 399) (by decide +kernel)
theorem mX3_106 : Cond.methodLink RX3 106 yX3_hostFor ∈ lw_tbl := List.mem_of_getElem? (i := 412) (by decide +kernel)
theorem mX3_109 : Cond.methodLink RX3 109 yX3_eatsOf ∈ lw_tbl := List.mem_of_getElem? (i := 252) (by decide +kernel)
theorem mX3_112 : Cond.methodLink RX3 112 yX3_growsOf ∈ lw_tbl := List.mem_of_getElem? (i := 398) (by decide +kernel)
theorem mX3_115 : Cond.methodLink RX3 115 yX3_pairedEvent ∈ lw_tbl := List.mem_of_getElem? (i := 403) (by decide +kernel)
theorem mX3_118 : Cond.methodLink RX3 118 yX3_isOnRoad ∈ lw_tbl := List.mem_of_getElem? (i := 407) (by decide +kernel)
theorem mX3_121 : Cond.methodLink RX3 121 yX3_addOne ∈ lw_tbl := List.mem_of_getElem? (i := 411) (by decide +kernel)
theorem mX3_124 : Cond.methodLink RX3 124 yX3_eatenIn ∈ lw_tbl := List.mem_of_getElem? (i := 433) (by decide +kernel)
theorem mX3_127 : Cond.methodLink RX3 127 yJ9_max_7cf53 ∈ lw_tbl := List.mem_of_getElem? (i := 428) (by decide +kernel)
theorem mL_13 : Cond.methodLink RL 13 yX4_house ∈ lw_tbl := List.mem_of_getElem? (i := 218) (by decide +kernel)
theorem mL_17 : Cond.methodLink RL 17 yX5_house ∈ lw_tbl := List.mem_of_getElem? (i := 765) (by decide +kernel)
theorem mL_18 : Cond.methodLink RL 18 yX4_houseOf ∈ lw_tbl := List.mem_of_getElem? (i := 236) (by decide +kernel)
theorem mL_22 : Cond.methodLink RL 22 yX5_houseOf ∈ lw_tbl := List.mem_of_getElem? (i := 789) (by decide +kernel)
theorem mL_23 : Cond.methodLink RL 23 yX4_rumour ∈ lw_tbl := List.mem_of_getElem? (i := 262) (by decide +kernel)
theorem mL_26 : Cond.methodLink RL 26 yX5_rumour ∈ lw_tbl := List.mem_of_getElem? (i := 821) (by decide +kernel)
theorem mL_27 : Cond.methodLink RL 27 yX4_of ∈ lw_tbl := List.mem_of_getElem? (i := 282) (by decide +kernel)
theorem mL_30 : Cond.methodLink RL 30 yX5_of ∈ lw_tbl := List.mem_of_getElem? (i := 837) (by decide +kernel)
theorem mL_31 : Cond.methodLink RL 31 yX4_set ∈ lw_tbl := List.mem_of_getElem? (i := 305) (by decide +kernel)
theorem mL_34 : Cond.methodLink RL 34 yX5_set ∈ lw_tbl := List.mem_of_getElem? (i := 853) (by decide +kernel)
theorem mL_35 : Cond.methodLink RL 35 yX4_turn ∈ lw_tbl := List.mem_of_getElem? (i := 312) (by decide +kernel)
theorem mL_38 : Cond.methodLink RL 38 yX5_turn ∈ lw_tbl := List.mem_of_getElem? (i := 858) (by decide +kernel)
theorem mL_39 : Cond.methodLink RL 39 yX4_as ∈ lw_tbl := List.mem_of_getElem? (i := 316) (by decide +kernel)
theorem mL_42 : Cond.methodLink RL 42 yX5_as ∈ lw_tbl := List.mem_of_getElem? (i := 862) (by decide +kernel)
theorem mL_43 : Cond.methodLink RL 43 yX4_takes ∈ lw_tbl := List.mem_of_getElem? (i := 326) (by decide +kernel)
theorem mL_46 : Cond.methodLink RL 46 yX5_takes ∈ lw_tbl := List.mem_of_getElem? (i := 870) (by decide +kernel)
theorem mL_47 : Cond.methodLink RL 47 yX4_comeIn ∈ lw_tbl := List.mem_of_getElem? (i := 338) (by decide +kernel)
theorem mL_51 : Cond.methodLink RL 51 yX5_comeIn ∈ lw_tbl := List.mem_of_getElem? (i := 885) (by decide +kernel)
theorem mL_52 : Cond.methodLink RL 52 yX4_improve ∈ lw_tbl := List.mem_of_getElem? (i := 358) (by decide +kernel)
theorem mL_55 : Cond.methodLink RL 55 yX5_improve ∈ lw_tbl := List.mem_of_getElem? (i := 898) (by decide +kernel)
theorem mL_56 : Cond.methodLink RL 56 yX4_comesTrue ∈ lw_tbl := List.mem_of_getElem? (i := 370) (by decide +kernel)
theorem mL_59 : Cond.methodLink RL 59 yX5_comesTrue ∈ lw_tbl := List.mem_of_getElem? (i := 910) (by decide +kernel)
theorem mL_60 : Cond.methodLink RL 60 yX4_forget ∈ lw_tbl := List.mem_of_getElem? (i := 378) (by decide +kernel)
theorem mL_63 : Cond.methodLink RL 63 yX5_forget ∈ lw_tbl := List.mem_of_getElem? (i := 918) (by decide +kernel)
theorem mL_64 : Cond.methodLink RL 64 yX4_days ∈ lw_tbl := List.mem_of_getElem? (i := 382) (by decide +kernel)
theorem mL_67 : Cond.methodLink RL 67 yX5_days ∈ lw_tbl := List.mem_of_getElem? (i := 922) (by decide +kernel)
theorem mL_68 : Cond.methodLink RL 68 yX4_now ∈ lw_tbl := List.mem_of_getElem? (i := 413) (by decide +kernel)
theorem mL_71 : Cond.methodLink RL 71 yX5_now ∈ lw_tbl := List.mem_of_getElem? (i := 951) (by decide +kernel)
theorem mL_72 : Cond.methodLink RL 72 yX4_on ∈ lw_tbl := List.mem_of_getElem? (i := 434) (by decide +kernel)
theorem mL_75 : Cond.methodLink RL 75 yX5_on ∈ lw_tbl := List.mem_of_getElem? (i := 971) (by decide +kernel)
theorem mL_76 : Cond.methodLink RL 76 yX4_larder ∈ lw_tbl := List.mem_of_getElem? (i := 445) (by decide +kernel)
theorem mL_79 : Cond.methodLink RL 79 yX5_larder ∈ lw_tbl := List.mem_of_getElem? (i := 990) (by decide +kernel)
theorem mL_80 : Cond.methodLink RL 80 yX4_empty ∈ lw_tbl := List.mem_of_getElem? (i := 449) (by decide +kernel)
theorem mL_83 : Cond.methodLink RL 83 yX5_empty ∈ lw_tbl := List.mem_of_getElem? (i := 994) (by decide +kernel)
theorem mL_84 : Cond.methodLink RL 84 yX4_many ∈ lw_tbl := List.mem_of_getElem? (i := 455) (by decide +kernel)
theorem mL_87 : Cond.methodLink RL 87 yX5_many ∈ lw_tbl := List.mem_of_getElem? (i := 1003) (by decide +kernel)
theorem mL_88 : Cond.methodLink RL 88 yX4_out ∈ lw_tbl := List.mem_of_getElem? (i := 459) (by decide +kernel)
theorem mL_91 : Cond.methodLink RL 91 yX5_out ∈ lw_tbl := List.mem_of_getElem? (i := 1007) (by decide +kernel)
theorem mL_92 : Cond.methodLink RL 92 yX4_fewest ∈ lw_tbl := List.mem_of_getElem? (i := 463) (by decide +kernel)
theorem mL_95 : Cond.methodLink RL 95 yX5_fewest ∈ lw_tbl := List.mem_of_getElem? (i := 1011) (by decide +kernel)
theorem mL_96 : Cond.methodLink RL 96 yX4_least ∈ lw_tbl := List.mem_of_getElem? (i := 467) (by decide +kernel)
theorem mL_99 : Cond.methodLink RL 99 yX5_least ∈ lw_tbl := List.mem_of_getElem? (i := 1019) (by decide +kernel)
theorem mL_100 : Cond.methodLink RL 100 yX4_best ∈ lw_tbl := List.mem_of_getElem? (i := 471) (by decide +kernel)
theorem mL_103 : Cond.methodLink RL 103 yX5_best ∈ lw_tbl := List.mem_of_getElem? (i := 1023) (by decide +kernel)
theorem mL_104 : Cond.methodLink RL 104 yX4_lean ∈ lw_tbl := List.mem_of_getElem? (i := 475) (by decide +kernel)
theorem mL_107 : Cond.methodLink RL 107 yX5_lean ∈ lw_tbl := List.mem_of_getElem? (i := 1030) (by decide +kernel)
theorem mL_108 : Cond.methodLink RL 108 yX4_leanFor ∈ lw_tbl := List.mem_of_getElem? (i := 480) (by decide +kernel)
theorem mL_111 : Cond.methodLink RL 111 yX5_leanFor ∈ lw_tbl := List.mem_of_getElem? (i := 1034) (by decide +kernel)
theorem mL_112 : Cond.methodLink RL 112 yX4_kind ∈ lw_tbl := List.mem_of_getElem? (i := 484) (by decide +kernel)
theorem mL_115 : Cond.methodLink RL 115 yX5_kind ∈ lw_tbl := List.mem_of_getElem? (i := 1038) (by decide +kernel)
theorem mL_116 : Cond.methodLink RL 116 yX4_host ∈ lw_tbl := List.mem_of_getElem? (i := 489) (by decide +kernel)
theorem mL_119 : Cond.methodLink RL 119 yX5_host ∈ lw_tbl := List.mem_of_getElem? (i := 1042) (by decide +kernel)
theorem mL_120 : Cond.methodLink RL 120 yX4_beds ∈ lw_tbl := List.mem_of_getElem? (i := 493) (by decide +kernel)
theorem mL_123 : Cond.methodLink RL 123 yX5_beds ∈ lw_tbl := List.mem_of_getElem? (i := 1046) (by decide +kernel)
theorem mL_124 : Cond.methodLink RL 124 yX4_feed ∈ lw_tbl := List.mem_of_getElem? (i := 497) (by decide +kernel)
theorem mL_127 : Cond.methodLink RL 127 yX5_feed ∈ lw_tbl := List.mem_of_getElem? (i := 1050) (by decide +kernel)
theorem mL_128 : Cond.methodLink RL 128 yX4_wipe ∈ lw_tbl := List.mem_of_getElem? (i := 505) (by decide +kernel)
theorem mL_132 : Cond.methodLink RL 132 yX5_wipe ∈ lw_tbl := List.mem_of_getElem? (i := 1055) (by decide +kernel)
theorem mL_133 : Cond.methodLink RL 133 yX4_town ∈ lw_tbl := List.mem_of_getElem? (i := 509) (by decide +kernel)
theorem mL_136 : Cond.methodLink RL 136 yX5_town ∈ lw_tbl := List.mem_of_getElem? (i := 1059) (by decide +kernel)
theorem mL_137 : Cond.methodLink RL 137 yX4_sheet ∈ lw_tbl := List.mem_of_getElem? (i := 632) (by decide +kernel)
theorem mL_140 : Cond.methodLink RL 140 yX5_sheet ∈ lw_tbl := List.mem_of_getElem? (i := 1141) (by decide +kernel)
theorem kL_141 : Cond.constantLong RL 141 (4294967295) ∈ lw_tbl := List.mem_of_getElem? (i := 1211) (by decide +kernel)
theorem mL_143 : Cond.methodLink RL 143 yX4_write ∈ lw_tbl := List.mem_of_getElem? (i := 644) (by decide +kernel)
theorem mL_147 : Cond.methodLink RL 147 yX5_write ∈ lw_tbl := List.mem_of_getElem? (i := 1149) (by decide +kernel)
theorem mL_148 : Cond.methodLink RL 148 yX4_copy ∈ lw_tbl := List.mem_of_getElem? (i := 657) (by decide +kernel)
theorem mL_152 : Cond.methodLink RL 152 yX5_copy ∈ lw_tbl := List.mem_of_getElem? (i := 1161) (by decide +kernel)
theorem mL_153 : Cond.methodLink RL 153 yX4_lays ∈ lw_tbl := List.mem_of_getElem? (i := 666) (by decide +kernel)
theorem mL_156 : Cond.methodLink RL 156 yX5_lays ∈ lw_tbl := List.mem_of_getElem? (i := 1165) (by decide +kernel)
theorem mL_157 : Cond.methodLink RL 157 yX4_book ∈ lw_tbl := List.mem_of_getElem? (i := 671) (by decide +kernel)
theorem mL_160 : Cond.methodLink RL 160 yX5_book ∈ lw_tbl := List.mem_of_getElem? (i := 1169) (by decide +kernel)
theorem mL_161 : Cond.methodLink RL 161 yX4_read ∈ lw_tbl := List.mem_of_getElem? (i := 679) (by decide +kernel)
theorem mL_164 : Cond.methodLink RL 164 yX5_read ∈ lw_tbl := List.mem_of_getElem? (i := 1177) (by decide +kernel)
theorem mL_165 : Cond.methodLink RL 165 yX4_image ∈ lw_tbl := List.mem_of_getElem? (i := 687) (by decide +kernel)
theorem mL_168 : Cond.methodLink RL 168 yX5_image ∈ lw_tbl := List.mem_of_getElem? (i := 1185) (by decide +kernel)
theorem mL_169 : Cond.methodLink RL 169 yX4_undo ∈ lw_tbl := List.mem_of_getElem? (i := 691) (by decide +kernel)
theorem mL_172 : Cond.methodLink RL 172 yX5_undo ∈ lw_tbl := List.mem_of_getElem? (i := 1189) (by decide +kernel)
theorem mL_173 : Cond.methodLink RL 173 yX4_tear ∈ lw_tbl := List.mem_of_getElem? (i := 695) (by decide +kernel)
theorem mL_176 : Cond.methodLink RL 176 yX5_tear ∈ lw_tbl := List.mem_of_getElem? (i := 1193) (by decide +kernel)
theorem mL_177 : Cond.methodLink RL 177 yX4_count ∈ lw_tbl := List.mem_of_getElem? (i := 699) (by decide +kernel)
theorem mL_180 : Cond.methodLink RL 180 yX5_count ∈ lw_tbl := List.mem_of_getElem? (i := 1197) (by decide +kernel)
theorem mL_181 : Cond.methodLink RL 181 yX4_status ∈ lw_tbl := List.mem_of_getElem? (i := 703) (by decide +kernel)
theorem mL_184 : Cond.methodLink RL 184 yX5_status ∈ lw_tbl := List.mem_of_getElem? (i := 1205) (by decide +kernel)
theorem gX1_0 : rb_FP 0 0 .int := ⟨_, rfl, rfl, by decide +kernel⟩
theorem gX1_1 : rb_FP 0 1 .int := ⟨_, rfl, rfl, by decide +kernel⟩
theorem gX2_1 : rb_FP 1 1 .int := ⟨_, rfl, rfl, by decide +kernel⟩
theorem gX2_2 : rb_FP 1 2 .int := ⟨_, rfl, rfl, by decide +kernel⟩
theorem gX2_3 : rb_FP 1 3 .int := ⟨_, rfl, rfl, by decide +kernel⟩
theorem gX2_4 : rb_FP 1 4 .int := ⟨_, rfl, rfl, by decide +kernel⟩
theorem gX2_5 : rb_FP 1 5 .int := ⟨_, rfl, rfl, by decide +kernel⟩
theorem gX3_4 : rb_FP 2 4 .int := ⟨_, rfl, rfl, by decide +kernel⟩
theorem gX3_10 : rb_FP 2 10 .int := ⟨_, rfl, rfl, by decide +kernel⟩
theorem gX3_11 : rb_FP 2 11 .int := ⟨_, rfl, rfl, by decide +kernel⟩
theorem gX4_3 : rb_FP 3 3 .boolean := ⟨_, rfl, rfl, by decide +kernel⟩
theorem gX5_5 : rb_FP 4 5 .boolean := ⟨_, rfl, rfl, by decide +kernel⟩
theorem gX5_7 : rb_FP 4 7 .int := ⟨_, rfl, rfl, by decide +kernel⟩
theorem gX5_8 : rb_FP 4 8 .int := ⟨_, rfl, rfl, by decide +kernel⟩
theorem gX5_9 : rb_FP 4 9 .int := ⟨_, rfl, rfl, by decide +kernel⟩
theorem gX5_10 : rb_FP 4 10 .int := ⟨_, rfl, rfl, by decide +kernel⟩
theorem gX5_11 : rb_FP 4 11 .boolean := ⟨_, rfl, rfl, by decide +kernel⟩
/-- an object of the heap: its class, its fields' sorts -/
def rb_ob (o ci : Nat) (F : List Nat) (C : String) : Prop := (o, 0) ∈ rb_ids ∧ rb_ci o = ci ∧ rb_fk o = F ∧ rb_cn o = C
def rb_ar (o j a n : Nat) : Prop := (o, j + 1) ∈ rb_ids ∧ rb_ak o j = (a, n)
theorem rb_obT {t : Nat} (ht : t < 3) : rb_ob t 2 [1,1,1,1,0,1,1,1,1,1,0,0] RX3 := by
  rcases (show t = 0 ∨ t = 1 ∨ t = 2 by omega) with rfl | rfl | rfl <;> exact ⟨by decide, rfl, rfl, rfl⟩
theorem rb_ob3 : rb_ob 3 1 [1,0,0,0,0,0] RX2 := ⟨by decide, rfl, rfl, rfl⟩
theorem rb_obS {q : Nat} (hq : q < 4) : rb_ob (4 + q) 0 [0,0,1] RX1 := by
  rcases (show q = 0 ∨ q = 1 ∨ q = 2 ∨ q = 3 by omega) with rfl | rfl | rfl | rfl <;> exact ⟨by decide, rfl, rfl, rfl⟩
theorem rb_ob8 : rb_ob 8 3 [2,3,4,0,5,1,1] RX4 := ⟨by decide, rfl, rfl, rfl⟩
theorem rb_ob9 : rb_ob 9 4 [1,1,1,1,1,0,1,0,0,0,0,0,1,1,1,1] RX5 := ⟨by decide, rfl, rfl, rfl⟩
theorem rb_arT0 {t : Nat} (ht : t < 3) : rb_ar t 0 0 8 := by
  rcases (show t = 0 ∨ t = 1 ∨ t = 2 by omega) with rfl | rfl | rfl <;> exact ⟨by decide, rfl⟩
theorem rb_arT1 {t : Nat} (ht : t < 3) : rb_ar t 1 0 8 := by
  rcases (show t = 0 ∨ t = 1 ∨ t = 2 by omega) with rfl | rfl | rfl <;> exact ⟨by decide, rfl⟩
theorem rb_arT2 {t : Nat} (ht : t < 3) : rb_ar t 2 0 8 := by
  rcases (show t = 0 ∨ t = 1 ∨ t = 2 by omega) with rfl | rfl | rfl <;> exact ⟨by decide, rfl⟩
theorem rb_arT3 {t : Nat} (ht : t < 3) : rb_ar t 3 0 8 := by
  rcases (show t = 0 ∨ t = 1 ∨ t = 2 by omega) with rfl | rfl | rfl <;> exact ⟨by decide, rfl⟩
theorem rb_arT5 {t : Nat} (ht : t < 3) : rb_ar t 5 0 10 := by
  rcases (show t = 0 ∨ t = 1 ∨ t = 2 by omega) with rfl | rfl | rfl <;> exact ⟨by decide, rfl⟩
theorem rb_arT6 {t : Nat} (ht : t < 3) : rb_ar t 6 0 10 := by
  rcases (show t = 0 ∨ t = 1 ∨ t = 2 by omega) with rfl | rfl | rfl <;> exact ⟨by decide, rfl⟩
theorem rb_arT7 {t : Nat} (ht : t < 3) : rb_ar t 7 0 10 := by
  rcases (show t = 0 ∨ t = 1 ∨ t = 2 by omega) with rfl | rfl | rfl <;> exact ⟨by decide, rfl⟩
theorem rb_arT8 {t : Nat} (ht : t < 3) : rb_ar t 8 0 10 := by
  rcases (show t = 0 ∨ t = 1 ∨ t = 2 by omega) with rfl | rfl | rfl <;> exact ⟨by decide, rfl⟩
theorem rb_arT9 {t : Nat} (ht : t < 3) : rb_ar t 9 0 10 := by
  rcases (show t = 0 ∨ t = 1 ∨ t = 2 by omega) with rfl | rfl | rfl <;> exact ⟨by decide, rfl⟩
theorem rb_arS2 {q : Nat} (hq : q < 4) : rb_ar (4 + q) 2 1 40 := by
  rcases (show q = 0 ∨ q = 1 ∨ q = 2 ∨ q = 3 by omega) with rfl | rfl | rfl | rfl <;> exact ⟨by decide, rfl⟩
theorem rb_ar3_0 : rb_ar 3 0 0 120 := ⟨by decide, rfl⟩
theorem rb_ar8_6 : rb_ar 8 6 0 7 := ⟨by decide, rfl⟩
theorem rb_ar9_0 : rb_ar 9 0 0 77 := ⟨by decide, rfl⟩
theorem rb_ar9_1 : rb_ar 9 1 0 77 := ⟨by decide, rfl⟩
theorem rb_ar9_2 : rb_ar 9 2 0 77 := ⟨by decide, rfl⟩
theorem rb_ar9_3 : rb_ar 9 3 0 77 := ⟨by decide, rfl⟩
theorem rb_ar9_4 : rb_ar 9 4 0 7 := ⟨by decide, rfl⟩
theorem rb_ar9_6 : rb_ar 9 6 0 120 := ⟨by decide, rfl⟩
theorem rb_ar9_12 : rb_ar 9 12 0 4 := ⟨by decide, rfl⟩
theorem rb_ar9_13 : rb_ar 9 13 0 4 := ⟨by decide, rfl⟩
theorem rb_ar9_14 : rb_ar 9 14 1 160 := ⟨by decide, rfl⟩
theorem rb_ar9_15 : rb_ar 9 15 1 40 := ⟨by decide, rfl⟩
end
section
section RB2
variable {Z : rb_Z} {G : rb_G} {cc : ByteArray} {nL : Nat} {own : String} {k pc : Nat} {L S : List Value} {h : rb_H}
/-! rows by the objects' and arrays' own facts -/
theorem rc_getR (X : rb_CX Z G cc nL own k) {o ci kf idx : Nat} {F : List Nat} {C : String} (f : rb_FL own idx ci kf) (b : rb_ob o ci F C) (hf : F.getD kf 0 = 1) (d : decode cc pc = .ok (.getfield idx, 3)) (kk : rb_WP Z G nL (pc + 3) L (.ref (rb_ad G o (kf + 1)) :: S) h) : rb_WP Z G nL pc L (.ref (rb_ad G o 0) :: S) h :=
  rb_get X f b.1 b.2.1 (by unfold rb_fv; rw [b.2.2.1, hf]; rfl) d kk
theorem rc_getI (X : rb_CX Z G cc nL own k) {o ci kf idx : Nat} {F : List Nat} {C : String} {v : Int32} (f : rb_FL own idx ci kf) (b : rb_ob o ci F C) (hf : F.getD kf 0 = 0) (hv : h.1 o kf 0 = v) (d : decode cc pc = .ok (.getfield idx, 3)) (kk : rb_WP Z G nL (pc + 3) L (.int v :: S) h) : rb_WP Z G nL pc L (.ref (rb_ad G o 0) :: S) h :=
  rb_get X f b.1 b.2.1 (by unfold rb_fv; rw [b.2.2.1, hf, ← hv]; rfl) d kk
theorem rc_getO (X : rb_CX Z G cc nL own k) {o ci kf idx q : Nat} {F : List Nat} {C : String} (f : rb_FL own idx ci kf) (b : rb_ob o ci F C) (hf : F.getD kf 0 = q + 2) (d : decode cc pc = .ok (.getfield idx, 3)) (kk : rb_WP Z G nL (pc + 3) L (.ref (rb_ad G q 0) :: S) h) : rb_WP Z G nL pc L (.ref (rb_ad G o 0) :: S) h :=
  rb_get X f b.1 b.2.1 (by unfold rb_fv; rw [b.2.2.1, hf]; rfl) d kk
theorem rc_put (X : rb_CX Z G cc nL own k) {o ci kf idx : Nat} {F : List Nat} {C : String} {v : Int32} {ty : FieldType} {h2 : rb_H} (f : rb_FL own idx ci kf) (g : rb_FP ci kf ty) (b : rb_ob o ci F C) (hf : F.getD kf 0 = 0) (hn : narrow ty (.int v) = .int v) (hft : fits ty (.int v) = true) (he : rb_u h o kf 0 v = h2) (d : decode cc pc = .ok (.putfield idx, 3)) (kk : rb_WP Z G nL (pc + 3) L S h2) : rb_WP Z G nL pc L (.int v :: .ref (rb_ad G o 0) :: S) h :=
  rb_put X f g b.1 b.2.1 (by rw [b.2.2.1, hf]) hn hft d (he ▸ kk)
theorem rc_iald (X : rb_CX Z G cc nL own k) {o j n : Nat} {i : Int32} {f : Nat → Int32} (q : Nat) (a : rb_ar o j 0 n) (hv : h.1 o j = f) (hi : i = nI q) (hq : q < n) (d : decode cc pc = .ok (.iaload, 1)) (kk : rb_WP Z G nL (pc + 1) L (.int (f q) :: S) h) (hn : n < 2 ^ 31 := by decide) : rb_WP Z G nL pc L (.int i :: .ref (rb_ad G o (j + 1)) :: S) h :=
  rb_iald X q a.1 a.2 hi hq d (by rw [hv]; exact kk) hn
theorem rc_iast (X : rb_CX Z G cc nL own k) {o j n : Nat} {i v : Int32} {h2 : rb_H} (q : Nat) (a : rb_ar o j 0 n) (he : rb_u h o j q v = h2) (hi : i = nI q) (hq : q < n) (d : decode cc pc = .ok (.iastore, 1)) (kk : rb_WP Z G nL (pc + 1) L S h2) (hn : n < 2 ^ 31 := by decide) : rb_WP Z G nL pc L (.int v :: .int i :: .ref (rb_ad G o (j + 1)) :: S) h :=
  rb_iast X q a.1 a.2 hi hq d (by rw [he]; exact kk) hn
theorem rc_lald (X : rb_CX Z G cc nL own k) {o j n : Nat} {i : Int32} {f : Nat → Int64} (q : Nat) (a : rb_ar o j 1 n) (hv : h.2 o j = f) (hi : i = nI q) (hq : q < n) (d : decode cc pc = .ok (.laload, 1)) (kk : rb_WP Z G nL (pc + 1) L (.long (f q) :: S) h) (hn : n < 2 ^ 31 := by decide) : rb_WP Z G nL pc L (.int i :: .ref (rb_ad G o (j + 1)) :: S) h :=
  rb_lald X q a.1 a.2 hi hq d (by rw [hv]; exact kk) hn
theorem rc_last (X : rb_CX Z G cc nL own k) {o j n : Nat} {i : Int32} {v : Int64} {h2 : rb_H} (q : Nat) (a : rb_ar o j 1 n) (he : rb_ul h o j q v = h2) (hi : i = nI q) (hq : q < n) (d : decode cc pc = .ok (.lastore, 1)) (kk : rb_WP Z G nL (pc + 1) L S h2) (hn : n < 2 ^ 31 := by decide) : rb_WP Z G nL pc L (.long v :: .int i :: .ref (rb_ad G o (j + 1)) :: S) h :=
  rb_last X q a.1 a.2 hi hq d (by rw [he]; exact kk) hn
theorem rc_alen (X : rb_CX Z G cc nL own k) {o j n : Nat} (a : rb_ar o j 0 n) (d : decode cc pc = .ok (.arraylength, 1)) (kk : rb_WP Z G nL (pc + 1) L (.int (nI n) :: S) h) : rb_WP Z G nL pc L (.ref (rb_ad G o (j + 1)) :: S) h := rb_alen X a.1 a.2 d kk
/-- a contract that says the answer and the heap -/
abbrev rb_F (r : Option Value) (h2 : rb_H) : Option Value → rb_H → Prop := fun r' h' => r' = r ∧ h' = h2
theorem rc_callVi (X : rb_CX Z G cc nL own k) {y : MethodName} {bytes : ByteArray} {maxL n kc idx o ci : Nat} {F : List Nat} {ret : Option FieldType} {As S0 : List Value} {v : Int32} {h2 : rb_H} (c : rb_cV y bytes maxL ret n) (lk : Cond.methodLink own idx y ∈ lw_tbl) (b : rb_ob o ci F y.cls) (hM : rb_M G kc y bytes maxL ret (.ref (rb_ad G o 0) :: As) h (rb_F (some (.int v)) h2)) (hkc : kc < k) (hn : As.length = n) (h0 : S0 = As.reverse ++ .ref (rb_ad G o 0) :: S) (hcat : (S.map fun v => v.category).sum ≤ 8) (d : decode cc pc = .ok (.invokevirtual idx, 3)) (kk : rb_WP Z G nL (pc + 3) L (.int v :: S) h2) : rb_WP Z G nL pc L S0 h :=
  rb_callV X c lk hM hkc b.1 b.2.2.2 hn h0 hcat d (fun r h' e => by obtain ⟨rfl, rfl⟩ := e; exact kk)
theorem rc_callVl (X : rb_CX Z G cc nL own k) {y : MethodName} {bytes : ByteArray} {maxL n kc idx o ci : Nat} {F : List Nat} {ret : Option FieldType} {As S0 : List Value} {v : Int64} {h2 : rb_H} (c : rb_cV y bytes maxL ret n) (lk : Cond.methodLink own idx y ∈ lw_tbl) (b : rb_ob o ci F y.cls) (hM : rb_M G kc y bytes maxL ret (.ref (rb_ad G o 0) :: As) h (rb_F (some (.long v)) h2)) (hkc : kc < k) (hn : As.length = n) (h0 : S0 = As.reverse ++ .ref (rb_ad G o 0) :: S) (hcat : (S.map fun v => v.category).sum ≤ 8) (d : decode cc pc = .ok (.invokevirtual idx, 3)) (kk : rb_WP Z G nL (pc + 3) L (.long v :: S) h2) : rb_WP Z G nL pc L S0 h :=
  rb_callV X c lk hM hkc b.1 b.2.2.2 hn h0 hcat d (fun r h' e => by obtain ⟨rfl, rfl⟩ := e; exact kk)
theorem rc_callVv (X : rb_CX Z G cc nL own k) {y : MethodName} {bytes : ByteArray} {maxL n kc idx o ci : Nat} {F : List Nat} {ret : Option FieldType} {As S0 : List Value} {h2 : rb_H} (c : rb_cV y bytes maxL ret n) (lk : Cond.methodLink own idx y ∈ lw_tbl) (b : rb_ob o ci F y.cls) (hM : rb_M G kc y bytes maxL ret (.ref (rb_ad G o 0) :: As) h (rb_F none h2)) (hkc : kc < k) (hn : As.length = n) (h0 : S0 = As.reverse ++ .ref (rb_ad G o 0) :: S) (hcat : (S.map fun v => v.category).sum ≤ 8) (d : decode cc pc = .ok (.invokevirtual idx, 3)) (kk : rb_WP Z G nL (pc + 3) L S h2) : rb_WP Z G nL pc L S0 h :=
  rb_callV X c lk hM hkc b.1 b.2.2.2 hn h0 hcat d (fun r h' e => by obtain ⟨rfl, rfl⟩ := e; exact kk)
theorem rc_callV (X : rb_CX Z G cc nL own k) {y : MethodName} {bytes : ByteArray} {maxL n kc idx o ci : Nat} {F : List Nat} {ret : Option FieldType} {As S0 : List Value} {post : Option Value → rb_H → Prop} (c : rb_cV y bytes maxL ret n) (lk : Cond.methodLink own idx y ∈ lw_tbl) (b : rb_ob o ci F y.cls) (hM : rb_M G kc y bytes maxL ret (.ref (rb_ad G o 0) :: As) h post) (hkc : kc < k) (hn : As.length = n) (h0 : S0 = As.reverse ++ .ref (rb_ad G o 0) :: S) (hcat : (S.map fun v => v.category).sum ≤ 8) (d : decode cc pc = .ok (.invokevirtual idx, 3)) (kk : ∀ (r : Option Value) (h' : rb_H), post r h' → rb_WP Z G nL (pc + 3) L (r.toList ++ S) h') : rb_WP Z G nL pc L S0 h :=
  rb_callV X c lk hM hkc b.1 b.2.2.2 hn h0 hcat d kk
theorem rc_callSi (X : rb_CX Z G cc nL own k) {y : MethodName} {bytes : ByteArray} {maxL n kc idx : Nat} {ret : Option FieldType} {As S0 : List Value} {v : Int32} {h2 : rb_H} (c : rb_cS y bytes maxL ret n) (lk : Cond.methodLink own idx y ∈ lw_tbl) (hM : rb_M G kc y bytes maxL ret As h (rb_F (some (.int v)) h2)) (hkc : kc < k) (hn : As.length = n) (h0 : S0 = As.reverse ++ S) (hcat : (S.map fun v => v.category).sum ≤ 8) (d : decode cc pc = .ok (.invokestatic idx, 3)) (kk : rb_WP Z G nL (pc + 3) L (.int v :: S) h2) : rb_WP Z G nL pc L S0 h :=
  rb_callS X c lk hM hkc hn h0 hcat d (fun r h' e => by obtain ⟨rfl, rfl⟩ := e; exact kk)
theorem rc_callSl (X : rb_CX Z G cc nL own k) {y : MethodName} {bytes : ByteArray} {maxL n kc idx : Nat} {ret : Option FieldType} {As S0 : List Value} {v : Int64} {h2 : rb_H} (c : rb_cS y bytes maxL ret n) (lk : Cond.methodLink own idx y ∈ lw_tbl) (hM : rb_M G kc y bytes maxL ret As h (rb_F (some (.long v)) h2)) (hkc : kc < k) (hn : As.length = n) (h0 : S0 = As.reverse ++ S) (hcat : (S.map fun v => v.category).sum ≤ 8) (d : decode cc pc = .ok (.invokestatic idx, 3)) (kk : rb_WP Z G nL (pc + 3) L (.long v :: S) h2) : rb_WP Z G nL pc L S0 h :=
  rb_callS X c lk hM hkc hn h0 hcat d (fun r h' e => by obtain ⟨rfl, rfl⟩ := e; exact kk)
theorem rc_callSa (X : rb_CX Z G cc nL own k) {y : MethodName} {bytes : ByteArray} {maxL n kc idx : Nat} {ret : Option FieldType} {As S0 : List Value} {v : Nat} {h2 : rb_H} (c : rb_cS y bytes maxL ret n) (lk : Cond.methodLink own idx y ∈ lw_tbl) (hM : rb_M G kc y bytes maxL ret As h (rb_F (some (.ref v)) h2)) (hkc : kc < k) (hn : As.length = n) (h0 : S0 = As.reverse ++ S) (hcat : (S.map fun v => v.category).sum ≤ 8) (d : decode cc pc = .ok (.invokestatic idx, 3)) (kk : rb_WP Z G nL (pc + 3) L (.ref v :: S) h2) : rb_WP Z G nL pc L S0 h :=
  rb_callS X c lk hM hkc hn h0 hcat d (fun r h' e => by obtain ⟨rfl, rfl⟩ := e; exact kk)
theorem rc_callTi (X : rb_CX Z G cc nL own k) {y : MethodName} {bytes : ByteArray} {maxL n kc idx i : Nat} {ret : Option FieldType} {As S0 : List Value} {v : Int32} {h2 : rb_H} (c : rb_cV y bytes maxL ret n) (lk : Cond.methodLink own idx y ∈ lw_tbl) (ho : i < 14) (hoc : y.cls = "java/lang/String") (hM : rb_M G kc y bytes maxL ret (.ref (G.2.2.2.1 i) :: As) h (rb_F (some (.int v)) h2)) (hkc : kc < k) (hn : As.length = n) (h0 : S0 = As.reverse ++ .ref (G.2.2.2.1 i) :: S) (hcat : (S.map fun v => v.category).sum ≤ 8) (d : decode cc pc = .ok (.invokevirtual idx, 3)) (kk : rb_WP Z G nL (pc + 3) L (.int v :: S) h2) : rb_WP Z G nL pc L S0 h :=
  rb_callT X c lk hM hkc ho hoc hn h0 hcat d (fun r h' e => by obtain ⟨rfl, rfl⟩ := e; exact kk)
/-! Math.min, Math.max, System.arraycopy -/
theorem rc_mmin (X : rb_CX Z G cc nL own k) {idx : Nat} (lk : Cond.methodLink own idx Lib.Math.min.name ∈ lw_tbl) (hk : 0 < k) (hcat : (S.map fun v => v.category).sum ≤ 8) {x y : Int32} (d : decode cc pc = .ok (.invokestatic idx, 3)) (kk : rb_WP Z G nL (pc + 3) L (.int (if y < x then y else x) :: S) h) : rb_WP Z G nL pc L (.int y :: .int x :: S) h := by
  obtain ⟨p, l, e, R, s, m, args, below, meth, c, A, cells, slots, Q⟩ := Z
  obtain ⟨hx, hb, hml, hown, hsw, hA, hA2, hf, hlo, hce, hso⟩ := X
  intro H locs ls hP hS hl
  exact va_mmin hx hb (by rw [hml, hl.1]) hown (hsw.1.use lk rfl _) (hsw.1.use (w := Cond.static Lib.Math.min.name) (by decide +kernel) rfl _) (hsw.1.use (w := Cond.initialized "java/lang/Math") wI_J9 rfl _) (hsw.1.use (w := Cond.code Lib.Math.min.name Lib.Math.min.code 2 (some .int)) (by decide +kernel) rfl _) (by omega) (by omega) hce hso d (kk H locs ls hP hS hl)
theorem rc_mmax (X : rb_CX Z G cc nL own k) {idx : Nat} (lk : Cond.methodLink own idx Lib.Math.max.name ∈ lw_tbl) (hk : 0 < k) (hcat : (S.map fun v => v.category).sum ≤ 8) {x y : Int32} (d : decode cc pc = .ok (.invokestatic idx, 3)) (kk : rb_WP Z G nL (pc + 3) L (.int (if x < y then y else x) :: S) h) : rb_WP Z G nL pc L (.int y :: .int x :: S) h := by
  obtain ⟨p, l, e, R, s, m, args, below, meth, c, A, cells, slots, Q⟩ := Z
  obtain ⟨hx, hb, hml, hown, hsw, hA, hA2, hf, hlo, hce, hso⟩ := X
  intro H locs ls hP hS hl
  exact va_mmax hx hb (by rw [hml, hl.1]) hown (hsw.1.use lk rfl _) (hsw.1.use (w := Cond.static Lib.Math.max.name) (by decide +kernel) rfl _) (hsw.1.use (w := Cond.initialized "java/lang/Math") wI_J9 rfl _) (hsw.1.use (w := Cond.code Lib.Math.max.name Lib.Math.max.code 2 (some .int)) (by decide +kernel) rfl _) (by omega) (by omega) hce hso d (kk H locs ls hP hS hl)
theorem rc_nfw : nativeFrameWords "java/lang/System" "arraycopy" 5 ≤ 20 := by decide
/-- a whole row copied from another one of the same length -/
theorem rc_copyAll (X : rb_CX Z G cc nL own k) {idx o1 j1 o2 j2 n : Nat} {nn : Int32} (lk : Cond.methodLink own idx arraycopyName ∈ lw_tbl) (hk : 0 < k) (hcat : (S.map fun v => v.category).sum ≤ 8) (a1 : rb_ar o1 j1 0 n) (a2 : rb_ar o2 j2 0 n) (hnn : nn = nI n) (hn : n < 2 ^ 31) {f : Nat → Int32} (hf1 : h.1 o1 j1 = f) {h2 : rb_H} (he : rb_row h o2 j2 f = h2) (d : decode cc pc = .ok (.invokestatic idx, 3)) (kk : rb_WP Z G nL (pc + 3) L S h2) : rb_WP Z G nL pc L (.int nn :: .int 0 :: .ref (rb_ad G o2 (j2 + 1)) :: .int 0 :: .ref (rb_ad G o1 (j1 + 1)) :: S) h := by
  subst he; subst hnn; subst hf1
  have kk2 : rb_WP Z G nL (pc + 3) L S (rb_row h o2 j2 (va_cpy (h.1 o1 j1) (h.1 o2 j2) 0 0 n)) := rb_rowC a2.1 a2.2 (fun i hi => by simp [va_cpy, hi]) kk
  obtain ⟨p, l, e, R, s, m, args, below, meth, c, A, cells, slots, Q⟩ := Z
  obtain ⟨hx, hb, hml, hown, hsw, hA, hA2, hf, hlo, hce, hso⟩ := X
  intro H locs ls hP hS hl
  obtain ⟨q1, hq1, ha1⟩ := rb_at (G := G) (h := h) a1.1
  obtain ⟨q2, hq2, ha2⟩ := rb_at (G := G) (h := h) a2.1
  rw [rb_cl_i a1.2] at ha1
  rw [rb_cl_i a2.2] at ha2
  have z0 : (0 : Int32).toNatClampNeg = 0 := by decide
  have hset : (rb_cw G h).set q2 (rb_ad G o2 (j2 + 1), .inl (G.2.1 0, n, .inl (va_cpy (h.1 o1 j1) (h.1 o2 j2) (0 : Int32).toNatClampNeg (0 : Int32).toNatClampNeg (nI n).toNatClampNeg))) = rb_cw G (rb_row h o2 j2 (va_cpy (h.1 o1 j1) (h.1 o2 j2) 0 0 n)) := rb_set hq2 (by rw [rb_row_cl a2.1 a2.2, nI_clamp hn, z0]) (rb_row_oth a2.1)
  have hcp := rc_nfw
  refine va_copyi (ty := .int) hx hb (by rw [hml, hl.1]) hown (hsw.1.use lk rfl _) (hsw.1.use (w := Cond.native arraycopyName) (by decide +kernel) rfl _) (hsw.1.use (w := Cond.static arraycopyName) (by decide +kernel) rfl _) (hsw.1.use (w := Cond.initialized "java/lang/System") wI_J10 rfl _) hsw.2.1 hP (rb_D hsw.2.2.1 hA) hS q1 q2 0 0 ha1 ha2 rfl rfl rfl (by decide) (by decide) (nI_pos hn) (by rw [nI_clamp hn, z0]; omega) (by rw [nI_clamp hn, z0]; omega) (fun _ _ => rfl) (by omega) (by omega) d (fun H1 locs1 hP1 _ hS1 => kk2 H1 locs1 ls (hset ▸ hP1) hS1 hl)
end RB2
end
section
/-! plain facts to paste, each family by itself; over the kit's nI, lN and upd -/
/-! ===== drawers: more things than places ===== -/
theorem fb_holes : ∀ (m n : Nat) (f : Nat → Nat), (∀ i, i < n → f i < m) → (∀ i j, i < j → j < n → f i ≠ f j) → n ≤ m := by
  intro m
  induction m with
  | zero =>
    intro n f h1 _
    rcases Nat.eq_zero_or_pos n with h | h
    · omega
    · exact absurd (h1 0 h) (Nat.not_lt_zero _)
  | succ m ih =>
    intro n f h1 h2
    by_cases hx : ∃ i, i < n ∧ f i = m
    · obtain ⟨a, ha, hfa⟩ := hx
      have hg := ih (n - 1) (fun i => if i < a then f i else f (i + 1)) (by
        intro i hi
        by_cases q : i < a
        · simp only [if_pos q]
          have b1 := h1 i (by omega)
          have b2 := h2 i a q ha
          omega
        · simp only [if_neg q]
          have b1 := h1 (i + 1) (by omega)
          have b2 := h2 a (i + 1) (by omega) (by omega)
          omega) (by
        intro i j hij hj
        by_cases q : i < a
        · by_cases r : j < a
          · simp only [if_pos q, if_pos r]
            exact h2 i j hij (by omega)
          · simp only [if_pos q, if_neg r]
            exact h2 i (j + 1) (by omega) (by omega)
        · have r : ¬ j < a := by omega
          simp only [if_neg q, if_neg r]
          exact h2 (i + 1) (j + 1) (by omega) (by omega))
      omega
    · have hg := ih n f (fun i hi => by
        have b1 := h1 i hi
        have b2 : f i ≠ m := fun e => hx ⟨i, hi, e⟩
        omega) h2
      omega
/-- two of them in one place -/
theorem fb_twice {m n : Nat} {f : Nat → Nat} (h : ∀ i, i < n → f i < m) (hm : m < n) : ∃ i j, i < j ∧ j < n ∧ f i = f j := by
  refine Classical.byContradiction fun hx => ?_
  have := fb_holes m n f h (fun i j hij hj e => hx ⟨i, j, hij, hj, e⟩)
  omega
/-- as many as places, none twice: each place is taken -/
theorem fb_onto {n : Nat} {f : Nat → Nat} (h : ∀ i, i < n → f i < n) (h2 : ∀ i j, i < j → j < n → f i ≠ f j) {y : Nat} (hy : y < n) : ∃ i, i < n ∧ f i = y := by
  refine Classical.byContradiction fun hx => ?_
  have hne : ∀ i, i < n → f i ≠ y := fun i hi e => hx ⟨i, hi, e⟩
  have := fb_holes (n - 1) n (fun i => if f i < y then f i else f i - 1) (by
    intro i hi
    have b1 := h i hi
    have b2 := hne i hi
    by_cases q : f i < y
    · simp only [if_pos q]; omega
    · simp only [if_neg q]; omega) (by
    intro i j hij hj
    have b1 := hne i (by omega)
    have b2 := hne j hj
    have b3 := h2 i j hij hj
    by_cases q : f i < y
    · by_cases r : f j < y
      · simp only [if_pos q, if_pos r]; exact b3
      · simp only [if_pos q, if_neg r]; omega
    · by_cases r : f j < y
      · simp only [if_neg q, if_pos r]; omega
      · simp only [if_neg q, if_neg r]; omega)
  omega
/-! ===== how many places have a property ===== -/
def fb_ct (p : Nat → Bool) : Nat → Nat
  | 0 => 0
  | n + 1 => fb_ct p n + (if p n then 1 else 0)
theorem fb_ct_succ (p : Nat → Bool) (n : Nat) : fb_ct p (n + 1) = fb_ct p n + (if p n then 1 else 0) := rfl
theorem fb_ct_le (p : Nat → Bool) : ∀ n, fb_ct p n ≤ n
  | 0 => Nat.le_refl _
  | n + 1 => by
    have h := fb_ct_le p n
    rw [fb_ct_succ]
    split <;> omega
theorem fb_ct_step (p : Nat → Bool) (m : Nat) : ∀ n, fb_ct p m ≤ fb_ct p (m + n)
  | 0 => Nat.le_refl _
  | n + 1 => by
    have h := fb_ct_step p m n
    show fb_ct p m ≤ fb_ct p (m + n + 1)
    rw [fb_ct_succ]
    omega
theorem fb_ct_mono (p : Nat → Bool) {m n : Nat} (h : m ≤ n) : fb_ct p m ≤ fb_ct p n := by
  have := fb_ct_step p m (n - m)
  rwa [Nat.add_sub_cancel' h] at this
theorem fb_ct_cong {p q : Nat → Bool} : ∀ {n : Nat}, (∀ k, k < n → p k = q k) → fb_ct p n = fb_ct q n
  | 0, _ => rfl
  | n + 1, h => by
    rw [fb_ct_succ, fb_ct_succ, fb_ct_cong (fun k hk => h k (by omega)), h n (by omega)]
/-- one place changed -/
theorem fb_ct_out (p : Nat → Bool) (b : Bool) {i n : Nat} (h : n ≤ i) : fb_ct (fun k => if k = i then b else p k) n = fb_ct p n :=
  fb_ct_cong fun k hk => if_neg (by omega)
theorem fb_ct_upd (p : Nat → Bool) (b : Bool) {i : Nat} : ∀ {n : Nat}, i < n → fb_ct (fun k => if k = i then b else p k) n + (if p i then 1 else 0) = fb_ct p n + (if b then 1 else 0)
  | 0, h => absurd h (Nat.not_lt_zero i)
  | n + 1, h => by
    rw [fb_ct_succ, fb_ct_succ]
    rcases Nat.lt_or_ge i n with q | q
    · have := fb_ct_upd p b q
      have e : (if n = i then b else p n) = p n := if_neg (by omega)
      rw [e]
      omega
    · have e : i = n := by omega
      subst e
      rw [fb_ct_out p b (Nat.le_refl _)]
      simp only [if_true]
      omega
theorem fb_ct_sub {p q : Nat → Bool} : ∀ {n : Nat}, (∀ k, k < n → p k = true → q k = true) → fb_ct p n ≤ fb_ct q n
  | 0, _ => Nat.le_refl _
  | n + 1, h => by
    have h1 := fb_ct_sub (n := n) (p := p) (q := q) (fun k hk => h k (by omega))
    have h2 := h n (by omega)
    rw [fb_ct_succ, fb_ct_succ]
    cases hp : p n <;> cases hq : q n <;> simp_all <;> omega
theorem fb_ct_or {p q : Nat → Bool} : ∀ {n : Nat}, (∀ k, k < n → ¬ (p k = true ∧ q k = true)) → fb_ct (fun k => p k || q k) n = fb_ct p n + fb_ct q n
  | 0, _ => rfl
  | n + 1, h => by
    have h1 := fb_ct_or (n := n) (p := p) (q := q) (fun k hk => h k (by omega))
    have h2 := h n (by omega)
    rw [fb_ct_succ, fb_ct_succ, fb_ct_succ, h1]
    cases hp : p n <;> cases hq : q n <;> simp_all <;> omega
theorem fb_ct_not (p : Nat → Bool) : ∀ n, fb_ct p n + fb_ct (fun k => !p k) n = n
  | 0 => rfl
  | n + 1 => by
    have h := fb_ct_not p n
    rw [fb_ct_succ, fb_ct_succ]
    cases p n <;> simp <;> omega
theorem fb_ct_split (p : Nat → Bool) (m : Nat) : ∀ n, fb_ct p (m + n) = fb_ct p m + fb_ct (fun k => p (m + k)) n
  | 0 => rfl
  | n + 1 => by
    have h := fb_ct_split p m n
    show fb_ct p (m + n + 1) = _
    rw [fb_ct_succ, fb_ct_succ, h, Nat.add_assoc]
theorem fb_ct_zero {p : Nat → Bool} : ∀ {n : Nat}, fb_ct p n = 0 ↔ ∀ k, k < n → p k = false
  | 0 => ⟨fun _ k hk => absurd hk (Nat.not_lt_zero k), fun _ => rfl⟩
  | n + 1 => by
    have h := fb_ct_zero (p := p) (n := n)
    rw [fb_ct_succ]
    constructor
    · intro e k hk
      have e1 : fb_ct p n = 0 := by omega
      rcases Nat.lt_or_ge k n with q | q
      · exact h.mp e1 k q
      · have ek : k = n := by omega
        subst ek
        cases hp : p k
        · rfl
        · simp [hp] at e
    · intro a
      rw [h.mpr (fun k hk => a k (by omega)), a n (by omega)]
      rfl
theorem fb_ct_pos {p : Nat → Bool} {n : Nat} : 0 < fb_ct p n ↔ ∃ k, k < n ∧ p k = true := by
  constructor
  · intro h
    refine Classical.byContradiction fun hx => ?_
    have := fb_ct_zero.mpr (fun k hk => by
      cases hp : p k
      · rfl
      · exact absurd ⟨k, hk, hp⟩ hx : ∀ k, k < n → p k = false)
    omega
  · rintro ⟨k, hk, hp⟩
    rcases Nat.eq_zero_or_pos (fb_ct p n) with e | e
    · have := fb_ct_zero.mp e k hk
      rw [this] at hp
      cases hp
    · exact e
theorem fb_ct_all {p : Nat → Bool} {n : Nat} : fb_ct p n = n ↔ ∀ k, k < n → p k = true := by
  have h := fb_ct_not p n
  constructor
  · intro e k hk
    have z : fb_ct (fun k => !p k) n = 0 := by omega
    have := fb_ct_zero.mp z k hk
    cases hp : p k
    · simp [hp] at this
    · rfl
  · intro a
    have z : fb_ct (fun k => !p k) n = 0 := fb_ct_zero.mpr (fun k hk => by simp [a k hk])
    omega
/-- the k-th place with the property -/
theorem fb_ct_kth {p : Nat → Bool} {k : Nat} : ∀ {n : Nat}, k < fb_ct p n → ∃ i, i < n ∧ p i = true ∧ fb_ct p i = k
  | 0, h => absurd h (Nat.not_lt_zero k)
  | n + 1, h => by
    rcases Nat.lt_or_ge k (fb_ct p n) with q | q
    · obtain ⟨i, h1, h2⟩ := fb_ct_kth q
      exact ⟨i, by omega, h2⟩
    · rw [fb_ct_succ] at h
      cases hp : p n
      · simp [hp] at h; omega
      · simp [hp] at h
        exact ⟨n, by omega, hp, by omega⟩
theorem fb_ct_kth_one {p : Nat → Bool} {i j : Nat} (hi : p i = true) (hj : p j = true) (e : fb_ct p i = fb_ct p j) : i = j := by
  have key : ∀ a b : Nat, a < b → p a = true → fb_ct p a < fb_ct p b := by
    intro a b hab ha
    have h := fb_ct_mono p (show a + 1 ≤ b from hab)
    rw [fb_ct_succ, ha] at h
    simp at h
    omega
  rcases Nat.lt_trichotomy i j with q | q | q
  · have := key i j q hi; omega
  · exact q
  · have := key j i q hj; omega
/-! ===== sums over a range: one place changed, parts, bounds ===== -/
def fb_sm (f : Nat → Nat) : Nat → Nat
  | 0 => 0
  | n + 1 => fb_sm f n + f n
theorem fb_sm_succ (f : Nat → Nat) (n : Nat) : fb_sm f (n + 1) = fb_sm f n + f n := rfl
theorem fb_sm_cong {f g : Nat → Nat} : ∀ {n : Nat}, (∀ k, k < n → f k = g k) → fb_sm f n = fb_sm g n
  | 0, _ => rfl
  | n + 1, h => by rw [fb_sm_succ, fb_sm_succ, fb_sm_cong (fun k hk => h k (by omega)), h n (by omega)]
theorem fb_sm_out (f : Nat → Nat) (v : Nat) {i n : Nat} (h : n ≤ i) : fb_sm (fun k => if k = i then v else f k) n = fb_sm f n :=
  fb_sm_cong fun k hk => if_neg (by omega)
theorem fb_sm_upd (f : Nat → Nat) (v : Nat) {i : Nat} : ∀ {n : Nat}, i < n → fb_sm (fun k => if k = i then v else f k) n + f i = fb_sm f n + v
  | 0, h => absurd h (Nat.not_lt_zero i)
  | n + 1, h => by
    rw [fb_sm_succ, fb_sm_succ]
    rcases Nat.lt_or_ge i n with q | q
    · have := fb_sm_upd f v q
      have e : (if n = i then v else f n) = f n := if_neg (by omega)
      rw [e]
      omega
    · have e : i = n := by omega
      subst e
      rw [fb_sm_out f v (Nat.le_refl _)]
      simp only [if_true]
      omega
theorem fb_sm_add (f g : Nat → Nat) : ∀ n, fb_sm (fun k => f k + g k) n = fb_sm f n + fb_sm g n
  | 0 => rfl
  | n + 1 => by
    have h := fb_sm_add f g n
    rw [fb_sm_succ, fb_sm_succ, fb_sm_succ, h]
    omega
theorem fb_sm_le {f g : Nat → Nat} : ∀ {n : Nat}, (∀ k, k < n → f k ≤ g k) → fb_sm f n ≤ fb_sm g n
  | 0, _ => Nat.le_refl _
  | n + 1, h => by
    have h1 := fb_sm_le (n := n) (f := f) (g := g) (fun k hk => h k (by omega))
    have h2 := h n (by omega)
    rw [fb_sm_succ, fb_sm_succ]
    omega
theorem fb_sm_const (c : Nat) : ∀ n, fb_sm (fun _ => c) n = n * c
  | 0 => by rw [Nat.zero_mul]; rfl
  | n + 1 => by rw [fb_sm_succ, fb_sm_const c n, Nat.succ_mul]
theorem fb_sm_bound {f : Nat → Nat} {c n : Nat} (h : ∀ k, k < n → f k ≤ c) : fb_sm f n ≤ n * c := by
  rw [← fb_sm_const c n]
  exact fb_sm_le h
theorem fb_sm_mono (f : Nat → Nat) (m : Nat) : ∀ n, fb_sm f m ≤ fb_sm f (m + n)
  | 0 => Nat.le_refl _
  | n + 1 => by
    have h := fb_sm_mono f m n
    show fb_sm f m ≤ fb_sm f (m + n + 1)
    rw [fb_sm_succ]
    omega
theorem fb_sm_part (f : Nat → Nat) {i n : Nat} (h : i < n) : fb_sm f i + f i ≤ fb_sm f n := by
  have := fb_sm_mono f (i + 1) (n - (i + 1))
  rw [fb_sm_succ, show i + 1 + (n - (i + 1)) = n by omega] at this
  exact this
theorem fb_sm_split (f : Nat → Nat) (m : Nat) : ∀ n, fb_sm f (m + n) = fb_sm f m + fb_sm (fun k => f (m + k)) n
  | 0 => rfl
  | n + 1 => by
    have h := fb_sm_split f m n
    show fb_sm f (m + n + 1) = _
    rw [fb_sm_succ, fb_sm_succ, h, Nat.add_assoc]
theorem fb_sm_zero {f : Nat → Nat} {n : Nat} (h : fb_sm f n = 0) : ∀ k, k < n → f k = 0 := fun k hk => by
  have := fb_sm_part f hk
  omega
/-- the same over whole numbers -/
def fb_si (f : Nat → Int) : Nat → Int
  | 0 => 0
  | n + 1 => fb_si f n + f n
theorem fb_si_succ (f : Nat → Int) (n : Nat) : fb_si f (n + 1) = fb_si f n + f n := rfl
theorem fb_si_cong {f g : Nat → Int} : ∀ {n : Nat}, (∀ k, k < n → f k = g k) → fb_si f n = fb_si g n
  | 0, _ => rfl
  | n + 1, h => by rw [fb_si_succ, fb_si_succ, fb_si_cong (fun k hk => h k (by omega)), h n (by omega)]
theorem fb_si_out (f : Nat → Int) (v : Int) {i n : Nat} (h : n ≤ i) : fb_si (fun k => if k = i then v else f k) n = fb_si f n :=
  fb_si_cong fun k hk => if_neg (by omega)
theorem fb_si_upd (f : Nat → Int) (v : Int) {i : Nat} : ∀ {n : Nat}, i < n → fb_si (fun k => if k = i then v else f k) n = fb_si f n - f i + v
  | 0, h => absurd h (Nat.not_lt_zero i)
  | n + 1, h => by
    rw [fb_si_succ, fb_si_succ]
    rcases Nat.lt_or_ge i n with q | q
    · have := fb_si_upd f v q
      have e : (if n = i then v else f n) = f n := if_neg (by omega)
      rw [e]
      omega
    · have e : i = n := by omega
      subst e
      rw [fb_si_out f v (Nat.le_refl _)]
      simp only [if_true]
      omega
theorem fb_si_add (f g : Nat → Int) : ∀ n, fb_si (fun k => f k + g k) n = fb_si f n + fb_si g n
  | 0 => rfl
  | n + 1 => by
    have h := fb_si_add f g n
    rw [fb_si_succ, fb_si_succ, fb_si_succ, h]
    omega
theorem fb_si_sub (f g : Nat → Int) : ∀ n, fb_si (fun k => f k - g k) n = fb_si f n - fb_si g n
  | 0 => rfl
  | n + 1 => by
    have h := fb_si_sub f g n
    rw [fb_si_succ, fb_si_succ, fb_si_succ, h]
    omega
theorem fb_si_mul (c : Int) (f : Nat → Int) : ∀ n, fb_si (fun k => c * f k) n = c * fb_si f n
  | 0 => (Int.mul_zero c).symm
  | n + 1 => by
    have h := fb_si_mul c f n
    rw [fb_si_succ, fb_si_succ, h, Int.mul_add]
theorem fb_si_split (f : Nat → Int) (m : Nat) : ∀ n, fb_si f (m + n) = fb_si f m + fb_si (fun k => f (m + k)) n
  | 0 => (Int.add_zero _).symm
  | n + 1 => by
    have h := fb_si_split f m n
    show fb_si f (m + n + 1) = _
    rw [fb_si_succ, fb_si_succ, h, Int.add_assoc]
theorem fb_si_nat (f : Nat → Nat) : ∀ n, fb_si (fun k => (f k : Int)) n = (fb_sm f n : Int)
  | 0 => rfl
  | n + 1 => by
    have h := fb_si_nat f n
    rw [fb_si_succ, fb_sm_succ, h]
    omega
theorem fb_si_bound {f : Nat → Int} {c : Int} (hc : 0 ≤ c) : ∀ {n : Nat}, (∀ k, k < n → -c ≤ f k ∧ f k ≤ c) → -(n * c) ≤ fb_si f n ∧ fb_si f n ≤ n * c
  | 0, _ => by simp [fb_si]
  | n + 1, h => by
    have h1 := fb_si_bound (n := n) (f := f) hc (fun k hk => h k (by omega))
    have h2 := h n (by omega)
    have e : ((n + 1 : Nat) : Int) * c = n * c + c := by rw [Int.natCast_add, Int.add_mul]; simp
    rw [fb_si_succ, e]
    omega
/-! ===== bits of a long that isn't negative ===== -/
theorem fb_andL (a b : Nat) : lN a &&& lN b = lN (a &&& b) := by
  apply Int64.toBitVec_inj.1
  show BitVec.ofNat 64 a &&& BitVec.ofNat 64 b = BitVec.ofNat 64 (a &&& b)
  apply BitVec.eq_of_getLsbD_eq
  intro i hi
  simp [hi]
theorem fb_orL (a b : Nat) : lN a ||| lN b = lN (a ||| b) := by
  apply Int64.toBitVec_inj.1
  show BitVec.ofNat 64 a ||| BitVec.ofNat 64 b = BitVec.ofNat 64 (a ||| b)
  apply BitVec.eq_of_getLsbD_eq
  intro i hi
  simp [hi]
theorem fb_xorL (a b : Nat) : lN a ^^^ lN b = lN (a ^^^ b) := by
  apply Int64.toBitVec_inj.1
  show BitVec.ofNat 64 a ^^^ BitVec.ofNat 64 b = BitVec.ofNat 64 (a ^^^ b)
  apply BitVec.eq_of_getLsbD_eq
  intro i hi
  simp [hi]
theorem fb_xorI (a b : Nat) : nI a ^^^ nI b = nI (a ^^^ b) := by
  apply Int32.toBitVec_inj.1
  show BitVec.ofNat 32 a ^^^ BitVec.ofNat 32 b = BitVec.ofNat 32 (a ^^^ b)
  apply BitVec.eq_of_getLsbD_eq
  intro i hi
  simp [hi]
theorem fb_maskL (n k : Nat) : lN n &&& lN (2 ^ k - 1) = lN (n % 2 ^ k) := by rw [fb_andL, Nat.and_two_pow_sub_one_eq_mod]
theorem fb_or_sumL {a k : Nat} (b : Nat) (h : a < 2 ^ k) : lN (2 ^ k * b) ||| lN a = lN (2 ^ k * b + a) := by rw [fb_orL, Nat.two_pow_add_eq_or_of_lt h]
theorem fb_lN_inj {a b : Nat} (ha : a < 2 ^ 63) (hb : b < 2 ^ 63) : lN a = lN b ↔ a = b := by
  constructor
  · intro h
    have h1 : (BitVec.ofNat 64 a).toNat = (BitVec.ofNat 64 b).toNat := congrArg (fun x : Int64 => x.toBitVec.toNat) h
    rw [BitVec.toNat_ofNat, BitVec.toNat_ofNat, Nat.mod_eq_of_lt (by omega), Nat.mod_eq_of_lt (by omega)] at h1
    exact h1
  · rintro rfl; rfl
theorem fb_bit_nat (n j : Nat) : n &&& 2 ^ j = 0 ↔ n.testBit j = false := by
  constructor
  · intro h
    have h1 : (n &&& 2 ^ j).testBit j = false := by rw [h]; simp
    rw [Nat.testBit_and] at h1
    simpa using h1
  · intro h
    apply Nat.eq_of_testBit_eq
    intro i
    rw [Nat.testBit_and]
    by_cases hi : j = i
    · subst hi; simp [h]
    · first | (simp [Nat.testBit_two_pow, hi]; done) | (simp [Nat.testBit_two_pow_of_ne hi]; done)
/-- one bit of a long -/
theorem fb_bitL {n j : Nat} (hj : j < 63) : lN n &&& lN (2 ^ j) = 0 ↔ n.testBit j = false := by
  have h2 : (2 : Nat) ^ j < 2 ^ 63 := Nat.pow_lt_pow_right (by decide) hj
  have hle : n &&& 2 ^ j ≤ 2 ^ j := Nat.and_le_right
  rw [fb_andL, ← fb_bit_nat, show (0 : Int64) = lN 0 from rfl]
  exact fb_lN_inj (by omega) (by decide)
/-- a bit set, a bit taken off -/
theorem fb_bit_set (n j i : Nat) : (n ||| 2 ^ j).testBit i = (n.testBit i || decide (i = j)) := by
  rw [Nat.testBit_or]
  by_cases h : j = i
  · subst h; simp
  · have h2 : ¬ i = j := fun e => h e.symm
    first | (simp [Nat.testBit_two_pow, h, h2]; done) | (simp [Nat.testBit_two_pow_of_ne h, h2]; done)
theorem fb_bit_flip (n j i : Nat) : (n ^^^ 2 ^ j).testBit i = (n.testBit i ^^ decide (i = j)) := by
  rw [Nat.testBit_xor]
  by_cases h : j = i
  · subst h; simp
  · have h2 : ¬ i = j := fun e => h e.symm
    first | (simp [Nat.testBit_two_pow, h, h2]; done) | (simp [Nat.testBit_two_pow_of_ne h, h2]; done)
/-! ===== a stretch of an array written over by a function ===== -/
def fb_put {α : Type} (f g : Nat → α) (a n : Nat) : Nat → α := fun k => if a ≤ k ∧ k < a + n then g (k - a) else f k
theorem fb_put_0 {α : Type} (f g : Nat → α) (a : Nat) : fb_put f g a 0 = f := funext fun k => if_neg (by omega)
theorem fb_put_in {α : Type} {f g : Nat → α} {a n k : Nat} (h1 : a ≤ k) (h2 : k < a + n) : fb_put f g a n k = g (k - a) := if_pos ⟨h1, h2⟩
theorem fb_put_out {α : Type} {f g : Nat → α} {a n k : Nat} (h : k < a ∨ a + n ≤ k) : fb_put f g a n k = f k := if_neg (by omega)
theorem fb_put_succ (f g : Nat → Int32) (a n : Nat) : upd (fb_put f g a n) (a + n) (g n) = fb_put f g a (n + 1) := by
  funext k
  by_cases h : k = a + n
  · subst h
    simp [upd, fb_put]
  · by_cases h1 : a ≤ k ∧ k < a + n
    · have h2 : a ≤ k ∧ k < a + (n + 1) := by omega
      simp only [upd, fb_put, if_neg h, if_pos h1, if_pos h2]
    · have h2 : ¬ (a ≤ k ∧ k < a + (n + 1)) := by omega
      simp only [upd, fb_put, if_neg h, if_neg h1, if_neg h2]
/-- .. from the far end down -/
theorem fb_put_down (f g : Nat → Int32) {a n m : Nat} (h : m < n) : upd (fb_put f (fun k => g (k + (m + 1))) (a + (m + 1)) (n - (m + 1))) (a + m) (g m) = fb_put f (fun k => g (k + m)) (a + m) (n - m) := by
  funext k
  by_cases h0 : k = a + m
  · subst h0
    simp only [upd, if_true]
    rw [fb_put_in (by omega) (by omega)]
    exact congrArg g (by omega)
  · simp only [upd, if_neg h0]
    by_cases h1 : a + (m + 1) ≤ k ∧ k < a + (m + 1) + (n - (m + 1))
    · rw [fb_put_in h1.1 h1.2, fb_put_in (by omega) (by omega)]
      exact congrArg g (by omega)
    · rw [fb_put_out (by omega), fb_put_out (by omega)]
theorem fb_put_cong {α : Type} {f f2 g g2 : Nat → α} {a n : Nat} (hf : ∀ k, (k < a ∨ a + n ≤ k) → f k = f2 k) (hg : ∀ k, k < n → g k = g2 k) : fb_put f g a n = fb_put f2 g2 a n := by
  funext k
  by_cases h : a ≤ k ∧ k < a + n
  · rw [fb_put_in h.1 h.2, fb_put_in h.1 h.2, hg _ (by omega)]
  · rw [fb_put_out (by omega), fb_put_out (by omega), hf _ (by omega)]
/-! ===== the least, the first, the best so far; that there is one alone ===== -/
theorem fb_first {p : Nat → Prop} [DecidablePred p] : ∀ {n : Nat}, (∃ i, i < n ∧ p i) → ∃ i, i < n ∧ p i ∧ ∀ j, j < i → ¬ p j
  | 0, h => by obtain ⟨i, hi, -⟩ := h; exact absurd hi (Nat.not_lt_zero i)
  | n + 1, h => by
    by_cases q : ∃ i, i < n ∧ p i
    · obtain ⟨i, h1, h2⟩ := fb_first q
      exact ⟨i, by omega, h2⟩
    · obtain ⟨i, h1, h2⟩ := h
      have e : i = n := by
        rcases Nat.lt_or_ge i n with r | r
        · exact absurd ⟨i, r, h2⟩ q
        · omega
      subst e
      exact ⟨i, by omega, h2, fun j hj hp => q ⟨j, hj, hp⟩⟩
theorem fb_first_one {p : Nat → Prop} {i j : Nat} (hi : p i) (hi2 : ∀ k, k < i → ¬ p k) (hj : p j) (hj2 : ∀ k, k < j → ¬ p k) : i = j := by
  rcases Nat.lt_trichotomy i j with q | q | q
  · exact absurd hi (hj2 i q)
  · exact q
  · exact absurd hj (hi2 j q)
theorem fb_last {p : Nat → Prop} [DecidablePred p] : ∀ {n : Nat}, (∃ i, i < n ∧ p i) → ∃ i, i < n ∧ p i ∧ ∀ j, i < j → j < n → ¬ p j
  | 0, h => by obtain ⟨i, hi, -⟩ := h; exact absurd hi (Nat.not_lt_zero i)
  | n + 1, h => by
    by_cases q : p n
    · exact ⟨n, by omega, q, fun j h1 h2 => by omega⟩
    · obtain ⟨i, h1, h2⟩ := h
      have hi : i < n := by
        rcases Nat.lt_or_ge i n with r | r
        · exact r
        · have e : i = n := by omega
          subst e
          exact absurd h2 q
      obtain ⟨i2, a1, a2, a3⟩ := fb_last (n := n) ⟨i, hi, h2⟩
      refine ⟨i2, by omega, a2, fun j b1 b2 => ?_⟩
      rcases Nat.lt_or_ge j n with r | r
      · exact a3 j b1 r
      · have e : j = n := by omega
        subst e
        exact q
/-- the first greatest -/
theorem fb_best (f : Nat → Int) : ∀ {n : Nat}, 0 < n → ∃ i, i < n ∧ (∀ j, j < n → f j ≤ f i) ∧ ∀ j, j < i → f j < f i
  | 0, h => absurd h (Nat.lt_irrefl 0)
  | 1, _ => ⟨0, by omega, fun j hj => by have e : j = 0 := by omega
                                         subst e; exact Int.le_refl _, fun j hj => absurd hj (Nat.not_lt_zero j)⟩
  | n + 2, _ => by
    obtain ⟨i, h1, h2, h3⟩ := fb_best f (n := n + 1) (by omega)
    by_cases q : f i < f (n + 1)
    · refine ⟨n + 1, by omega, fun j hj => ?_, fun j hj => ?_⟩
      · rcases Nat.lt_or_ge j (n + 1) with r | r
        · have := h2 j r; omega
        · have e : j = n + 1 := by omega
          subst e; exact Int.le_refl _
      · have := h2 j hj; omega
    · refine ⟨i, by omega, fun j hj => ?_, h3⟩
      rcases Nat.lt_or_ge j (n + 1) with r | r
      · exact h2 j r
      · have e : j = n + 1 := by omega
        subst e; omega
theorem fb_best_one {f : Nat → Int} {n i j : Nat} (hi : i < n) (hi2 : ∀ k, k < n → f k ≤ f i) (hi3 : ∀ k, k < i → f k < f i) (hj : j < n) (hj2 : ∀ k, k < n → f k ≤ f j) (hj3 : ∀ k, k < j → f k < f j) : i = j := by
  rcases Nat.lt_trichotomy i j with q | q | q
  · have a := hj3 i q
    have b := hi2 j hj
    omega
  · exact q
  · have a := hi3 j q
    have b := hj2 i hi
    omega
/-- the first least -/
theorem fb_low (f : Nat → Int) {n : Nat} (h : 0 < n) : ∃ i, i < n ∧ (∀ j, j < n → f i ≤ f j) ∧ ∀ j, j < i → f i < f j := by
  obtain ⟨i, h1, h2, h3⟩ := fb_best (fun k => -f k) h
  exact ⟨i, h1, fun j hj => by have := h2 j hj; omega, fun j hj => by have := h3 j hj; omega⟩
/-! ===== signed ints as whole numbers, within bounds ===== -/
theorem fb_rng (x : Int32) : -2147483648 ≤ x.toInt ∧ x.toInt < 2147483648 := by
  have h1 := Int32.le_toInt x
  have h2 := Int32.toInt_lt x
  omega
theorem fb_bmod {z : Int} (h1 : -2147483648 ≤ z) (h2 : z < 2147483648) : z.bmod (2 ^ 32) = z := by
  rw [Int.bmod_eq_of_le (by omega) (by omega)]
theorem fb_addI {x y : Int32} (h1 : -2147483648 ≤ x.toInt + y.toInt) (h2 : x.toInt + y.toInt < 2147483648) : (x + y).toInt = x.toInt + y.toInt := by
  rw [Int32.toInt_add, fb_bmod h1 h2]
theorem fb_subI {x y : Int32} (h1 : -2147483648 ≤ x.toInt - y.toInt) (h2 : x.toInt - y.toInt < 2147483648) : (x - y).toInt = x.toInt - y.toInt := by
  rw [Int32.toInt_sub, fb_bmod h1 h2]
theorem fb_mulI {x y : Int32} (h1 : -2147483648 ≤ x.toInt * y.toInt) (h2 : x.toInt * y.toInt < 2147483648) : (x * y).toInt = x.toInt * y.toInt := by
  rw [Int32.toInt_mul, fb_bmod h1 h2]
theorem fb_negI {x : Int32} (h : x.toInt ≠ -2147483648) : (-x).toInt = -x.toInt := by
  have := fb_rng x
  rw [Int32.toInt_neg, fb_bmod (by omega) (by omega)]
theorem fb_ofI {z : Int} (h1 : -2147483648 ≤ z) (h2 : z < 2147483648) : (Int32.ofInt z).toInt = z := by
  rw [Int32.toInt_ofInt, fb_bmod h1 h2]
theorem fb_asI (x : Int32) : Int32.ofInt x.toInt = x := Int32.ofInt_toInt x
theorem fb_rngL (x : Int64) : -9223372036854775808 ≤ x.toInt ∧ x.toInt < 9223372036854775808 := by
  have h1 := Int64.le_toInt x
  have h2 := Int64.toInt_lt x
  omega
theorem fb_bmodL {z : Int} (h1 : -9223372036854775808 ≤ z) (h2 : z < 9223372036854775808) : z.bmod (2 ^ 64) = z := by
  rw [Int.bmod_eq_of_le (by omega) (by omega)]
theorem fb_addL {x y : Int64} (h1 : -9223372036854775808 ≤ x.toInt + y.toInt) (h2 : x.toInt + y.toInt < 9223372036854775808) : (x + y).toInt = x.toInt + y.toInt := by
  rw [Int64.toInt_add, fb_bmodL h1 h2]
theorem fb_subL {x y : Int64} (h1 : -9223372036854775808 ≤ x.toInt - y.toInt) (h2 : x.toInt - y.toInt < 9223372036854775808) : (x - y).toInt = x.toInt - y.toInt := by
  rw [Int64.toInt_sub, fb_bmodL h1 h2]
theorem fb_mulL {x y : Int64} (h1 : -9223372036854775808 ≤ x.toInt * y.toInt) (h2 : x.toInt * y.toInt < 9223372036854775808) : (x * y).toInt = x.toInt * y.toInt := by
  rw [Int64.toInt_mul, fb_bmodL h1 h2]
/-! ===== cuts of what is narrow already ===== -/
theorem fb_byte {x : Int32} (h1 : -128 ≤ x.toInt) (h2 : x.toInt < 128) : x.toInt8.toInt32 = x := by
  apply Int32.toInt_inj.1
  rw [Int8.toInt_toInt32, Int32.toInt_toInt8, Int.bmod_eq_of_le (by omega) (by omega)]
theorem fb_short {x : Int32} (h1 : -32768 ≤ x.toInt) (h2 : x.toInt < 32768) : x.toInt16.toInt32 = x := by
  apply Int32.toInt_inj.1
  rw [Int16.toInt_toInt32, Int32.toInt_toInt16, Int.bmod_eq_of_le (by omega) (by omega)]
theorem fb_byte_rng (x : Int32) : -128 ≤ x.toInt8.toInt32.toInt ∧ x.toInt8.toInt32.toInt < 128 := by
  rw [Int8.toInt_toInt32]
  have h1 := Int8.le_toInt x.toInt8
  have h2 := Int8.toInt_lt x.toInt8
  omega
theorem fb_short_rng (x : Int32) : -32768 ≤ x.toInt16.toInt32.toInt ∧ x.toInt16.toInt32.toInt < 32768 := by
  rw [Int16.toInt_toInt32]
  have h1 := Int16.le_toInt x.toInt16
  have h2 := Int16.toInt_lt x.toInt16
  omega
theorem fb_byte_twice (x : Int32) : x.toInt8.toInt32.toInt8.toInt32 = x.toInt8.toInt32 := fb_byte (fb_byte_rng x).1 (fb_byte_rng x).2
theorem fb_short_twice (x : Int32) : x.toInt16.toInt32.toInt16.toInt32 = x.toInt16.toInt32 := fb_short (fb_short_rng x).1 (fb_short_rng x).2
theorem fb_char {n : Nat} (h : n < 65536) : (nI n).toUInt32.toUInt16.toUInt32.toInt32 = nI n := by
  apply Int32.toBitVec_inj.1
  apply BitVec.eq_of_toNat_eq
  have e1 : (nI n).toBitVec.toNat = n := by
    show (BitVec.ofNat 32 n).toNat = n
    rw [BitVec.toNat_ofNat, Nat.mod_eq_of_lt (by omega)]
  have e2 : ((nI n).toUInt32.toUInt16.toUInt32).toNat = n := by
    rw [UInt16.toNat_toUInt32, UInt32.toNat_toUInt16]
    show (nI n).toBitVec.toNat % 2 ^ 16 = n
    rw [e1, Nat.mod_eq_of_lt (by omega)]
  rw [e1]
  exact e2

/-! plain facts on numbers and arrays, to paste: each family by itself; over the kit's rows on nI and upd -/
/-! ===== order of ints, in all its forms, and through longs ===== -/
theorem fa_lt (a b : Int32) : a < b ↔ a.toInt < b.toInt := Int32.lt_iff_toInt_lt
theorem fa_le (a b : Int32) : a ≤ b ↔ a.toInt ≤ b.toInt := Int32.le_iff_toInt_le
theorem fa_eq (a b : Int32) : a = b ↔ a.toInt = b.toInt := Int32.toInt_inj.symm
theorem fa_lt64 (a b : Int64) : a < b ↔ a.toInt < b.toInt := Int64.lt_iff_toInt_lt
theorem fa_le64 (a b : Int64) : a ≤ b ↔ a.toInt ≤ b.toInt := Int64.le_iff_toInt_le
theorem fa_eq64 (a b : Int64) : a = b ↔ a.toInt = b.toInt := Int64.toInt_inj.symm
/-- a comparison of two ints taken as longs -/
theorem fa_wide_lt (a b : Int32) : a.toInt64 < b.toInt64 ↔ a < b := by rw [fa_lt64, fa_lt, Int32.toInt_toInt64, Int32.toInt_toInt64]
theorem fa_wide_le (a b : Int32) : a.toInt64 ≤ b.toInt64 ↔ a ≤ b := by rw [fa_le64, fa_le, Int32.toInt_toInt64, Int32.toInt_toInt64]
theorem fa_wide_eq (a b : Int32) : a.toInt64 = b.toInt64 ↔ a = b := by rw [fa_eq64, fa_eq, Int32.toInt_toInt64, Int32.toInt_toInt64]
/-- one strict comparison gives all the others -/
theorem fa_of_lt {a b : Int32} (h : a < b) : a ≤ b ∧ ¬ b ≤ a ∧ ¬ b < a ∧ a ≠ b ∧ b ≠ a := by
  rw [fa_lt] at h
  refine ⟨?_, ?_, ?_, ?_, ?_⟩
  · rw [fa_le]; omega
  · rw [fa_le]; omega
  · rw [fa_lt]; omega
  · intro e; rw [fa_eq] at e; omega
  · intro e; rw [fa_eq] at e; omega
theorem fa_of_nlt {a b : Int32} (h : ¬ a < b) : b ≤ a := by
  rw [fa_lt] at h
  rw [fa_le]
  omega
theorem fa_of_nle {a b : Int32} (h : ¬ a ≤ b) : b < a := by
  rw [fa_le] at h
  rw [fa_lt]
  omega
theorem fa_le_ne {a b : Int32} (h : a ≤ b) (h2 : a ≠ b) : a < b := by
  rw [fa_le] at h
  rw [fa_lt]
  have h3 : a.toInt ≠ b.toInt := fun e => h2 ((fa_eq a b).mpr e)
  omega
theorem fa_three (a b : Int32) : a < b ∨ a = b ∨ b < a := by
  rw [fa_lt, fa_lt, fa_eq]
  omega
theorem fa_trans {a b c : Int32} (h : a < b) (h2 : b ≤ c) : a < c := by
  rw [fa_lt] at *
  rw [fa_le] at h2
  omega
/-! ===== small literals as numbers ===== -/
theorem fa_lit (n : Nat) : (OfNat.ofNat n : Int32) = nI n := rfl
theorem fa_litL (n : Nat) : (OfNat.ofNat n : Int64) = lN n := rfl
/-! ===== bits of a number: 'or', masks, one bit ===== -/
theorem fa_and (a b : Nat) : nI a &&& nI b = nI (a &&& b) := by
  apply Int32.toBitVec_inj.1
  show BitVec.ofNat 32 a &&& BitVec.ofNat 32 b = BitVec.ofNat 32 (a &&& b)
  apply BitVec.eq_of_getLsbD_eq
  intro i hi
  simp [hi]
theorem fa_or (a b : Nat) : nI a ||| nI b = nI (a ||| b) := by
  apply Int32.toBitVec_inj.1
  show BitVec.ofNat 32 a ||| BitVec.ofNat 32 b = BitVec.ofNat 32 (a ||| b)
  apply BitVec.eq_of_getLsbD_eq
  intro i hi
  simp [hi]
/-- a remainder by a power of two, as a mask -/
theorem fa_mask (n k : Nat) : nI n &&& nI (2 ^ k - 1) = nI (n % 2 ^ k) := by rw [fa_and, Nat.and_two_pow_sub_one_eq_mod]
/-- 'or' of a high part and a low one that don't meet is their sum -/
theorem fa_or_sum {a k : Nat} (b : Nat) (h : a < 2 ^ k) : nI (2 ^ k * b) ||| nI a = nI (2 ^ k * b + a) := by rw [fa_or, Nat.two_pow_add_eq_or_of_lt h]
/-- one bit, by 'and' with a power of two -/
theorem fa_bit {n j : Nat} (hj : j < 31) : nI n &&& nI (2 ^ j) = 0 ↔ n.testBit j = false := by
  have h2 : (2 : Nat) ^ j < 2 ^ 31 := Nat.pow_lt_pow_right (by decide) hj
  have hle : n &&& 2 ^ j ≤ 2 ^ j := Nat.and_le_right
  have e : n &&& 2 ^ j = 0 ↔ n.testBit j = false := by
    constructor
    · intro h
      have h1 : (n &&& 2 ^ j).testBit j = false := by rw [h]; simp
      rw [Nat.testBit_and] at h1
      first | simpa using h1 | simpa [Nat.testBit_two_pow_self] using h1 | simpa [Nat.testBit_two_pow] using h1
    · intro h
      apply Nat.eq_of_testBit_eq
      intro i
      rw [Nat.testBit_and]
      by_cases hi : j = i
      · subst hi; simp [h]
      · first | (simp [Nat.testBit_two_pow, hi]; done) | (simp [Nat.testBit_two_pow_of_ne hi]; done)
  rw [fa_and]
  constructor
  · intro h
    apply e.mp
    rcases Nat.eq_zero_or_pos (n &&& 2 ^ j) with z | z
    · exact z
    · exact absurd h (nI_ne0 z (Nat.lt_of_le_of_lt hle h2))
  · intro h
    rw [e.mpr h]; exact nI_0
/-- a remainder by a power of two of a number that isn't negative, as Java divides -/
theorem fa_rem {a k : Nat} (ha : a < 2 ^ 31) (hk : k < 31) : nI a - nI a / nI (2 ^ k) * nI (2 ^ k) = nI (a % 2 ^ k) := pk_rem ha (Nat.two_pow_pos k) (Nat.pow_lt_pow_right (by decide) hk)
/-! ===== cuts to a byte, a short ===== -/
theorem fa_byte_xor (x y : Int32) : (x ^^^ y).toInt8 = x.toInt8 ^^^ y.toInt8 := by
  apply Int8.toBitVec_inj.1
  apply BitVec.eq_of_getLsbD_eq
  intro i hi
  first | (simp [hi]; done) | (simp [hi, BitVec.getLsbD_setWidth, BitVec.getLsbD_signExtend]; done)
theorem fa_short_xor (x y : Int32) : (x ^^^ y).toInt16 = x.toInt16 ^^^ y.toInt16 := by
  apply Int16.toBitVec_inj.1
  apply BitVec.eq_of_getLsbD_eq
  intro i hi
  first | (simp [hi]; done) | (simp [hi, BitVec.getLsbD_setWidth, BitVec.getLsbD_signExtend]; done)
/-- the cut to a byte sees the low byte alone -/
theorem fa_byte_low (x : Int32) : (x &&& 255).toInt8 = x.toInt8 := by
  apply Int8.toBitVec_inj.1
  apply BitVec.eq_of_getLsbD_eq
  intro i hi
  have h2 : (255 : Int32).toBitVec.getLsbD i = true := by
    have : ∀ j : Fin 8, (255 : Int32).toBitVec.getLsbD j.val = true := by decide +kernel
    exact this ⟨i, hi⟩
  have h4 : (x &&& 255).toBitVec.getLsbD i = x.toBitVec.getLsbD i := by
    show (x.toBitVec &&& (255 : Int32).toBitVec).getLsbD i = _
    rw [BitVec.getLsbD_and, h2, Bool.and_true]
  have h3 : i < 32 := by omega
  first
    | (show (((x &&& 255).toBitVec).signExtend 8).getLsbD i = (x.toBitVec.signExtend 8).getLsbD i; rw [BitVec.getLsbD_signExtend, BitVec.getLsbD_signExtend, if_pos h3, if_pos h3, h4])
    | (show (((x &&& 255).toBitVec).setWidth 8).getLsbD i = (x.toBitVec.setWidth 8).getLsbD i; rw [BitVec.getLsbD_setWidth, BitVec.getLsbD_setWidth, h4])
    | (simp [hi, h3, h4]; done)
theorem fa_short_low (x : Int32) : (x &&& 65535).toInt16 = x.toInt16 := by
  apply Int16.toBitVec_inj.1
  apply BitVec.eq_of_getLsbD_eq
  intro i hi
  have h2 : (65535 : Int32).toBitVec.getLsbD i = true := by
    have : ∀ j : Fin 16, (65535 : Int32).toBitVec.getLsbD j.val = true := by decide +kernel
    exact this ⟨i, hi⟩
  have h4 : (x &&& 65535).toBitVec.getLsbD i = x.toBitVec.getLsbD i := by
    show (x.toBitVec &&& (65535 : Int32).toBitVec).getLsbD i = _
    rw [BitVec.getLsbD_and, h2, Bool.and_true]
  have h3 : i < 32 := by omega
  first
    | (show (((x &&& 65535).toBitVec).signExtend 16).getLsbD i = (x.toBitVec.signExtend 16).getLsbD i; rw [BitVec.getLsbD_signExtend, BitVec.getLsbD_signExtend, if_pos h3, if_pos h3, h4])
    | (show (((x &&& 65535).toBitVec).setWidth 16).getLsbD i = (x.toBitVec.setWidth 16).getLsbD i; rw [BitVec.getLsbD_setWidth, BitVec.getLsbD_setWidth, h4])
    | (simp [hi, h3, h4]; done)
/-- a small number is its own byte, its own short -/
theorem fa_byte_small {n : Nat} (h : n < 128) : (nI n).toInt8.toInt32 = nI n := by
  have : ∀ j : Fin 128, (nI j.val).toInt8.toInt32 = nI j.val := by decide +kernel
  exact this ⟨n, h⟩
/-! ===== absolute difference ===== -/
theorem fa_absdiff {a b : Nat} (ha : a < 2 ^ 31) (hb : b < 2 ^ 31) : (if nI a < nI b then nI b - nI a else nI a - nI b) = nI (if a < b then b - a else a - b) := by
  by_cases h : a < b
  · rw [if_pos (nI_lt h hb), if_pos h]
    exact pk_sub (Nat.le_of_lt h)
  · rw [if_neg (nI_nlt (Nat.le_of_not_lt h) ha), if_neg h]
    exact pk_sub (Nat.le_of_not_lt h)
/-! ===== an array behind i stores, a conditional store, a row copied ===== -/
/-- f where k < i, what stood there else -/
def fa_fill {α : Type} (f g : Nat → α) (i : Nat) : Nat → α := fun k => if k < i then f k else g k
theorem fa_fill_0 {α : Type} (f g : Nat → α) : fa_fill f g 0 = g := funext fun k => if_neg (Nat.not_lt_zero k)
theorem fa_fill_in {α : Type} {f g : Nat → α} {i k : Nat} (h : k < i) : fa_fill f g i k = f k := if_pos h
theorem fa_fill_out {α : Type} {f g : Nat → α} {i k : Nat} (h : i ≤ k) : fa_fill f g i k = g k := if_neg (Nat.not_lt.mpr h)
theorem fa_fill_succ (f g : Nat → Int32) (i : Nat) : upd (fa_fill f g i) i (f i) = fa_fill f g (i + 1) := by
  funext k
  by_cases e : k = i
  · subst e
    rw [pk_us]
    exact (if_pos (Nat.lt_succ_self k)).symm
  · rw [pk_un e]
    by_cases h : k < i
    · rw [fa_fill_in h, fa_fill_in (Nat.lt_succ_of_lt h)]
    · rw [fa_fill_out (Nat.le_of_not_lt h), fa_fill_out (by omega)]
/-- a store that changes nothing -/
theorem fa_upd_same {f : Nat → Int32} {i : Nat} {x : Int32} (h : f i = x) : upd f i x = f := by
  funext k
  by_cases e : k = i
  · subst e
    rw [pk_us, h]
  · rw [pk_un e]
/-- a store under a condition, told as one -/
theorem fa_upd_if (c : Prop) [Decidable c] (f : Nat → Int32) (i : Nat) (x : Int32) : (if c then upd f i x else f) = upd f i (if c then x else f i) := by
  by_cases h : c
  · rw [if_pos h, if_pos h]
  · rw [if_neg h, if_neg h, fa_upd_same rfl]
/-- two stores at one place, at two -/
theorem fa_upd_twice (f : Nat → Int32) (i : Nat) (x y : Int32) : upd (upd f i x) i y = upd f i y := by
  funext k
  by_cases e : k = i
  · subst e
    rw [pk_us, pk_us]
  · rw [pk_un e, pk_un e, pk_un e]
theorem fa_upd_swap (f : Nat → Int32) {i j : Nat} (h : i ≠ j) (x y : Int32) : upd (upd f i x) j y = upd (upd f j y) i x := by
  funext k
  by_cases e : k = i
  · subst e
    rw [pk_un h, pk_us, pk_us]
  · by_cases e2 : k = j
    · subst e2
      rw [pk_us, pk_un e, pk_us]
    · rw [pk_un e2, pk_un e, pk_un e, pk_un e2]
/-! ===== the first index with a property; a count ===== -/
/-- the first k < n with p k, n if there is none -/
def fa_first (p : Nat → Bool) : Nat → Nat
  | 0 => 0
  | n + 1 => if fa_first p n < n then fa_first p n else if p n then n else n + 1
theorem fa_first_le (p : Nat → Bool) : ∀ n, fa_first p n ≤ n
  | 0 => Nat.le_refl 0
  | n + 1 => by
    have ih := fa_first_le p n
    unfold fa_first
    split
    · omega
    · split
      · omega
      · omega
theorem fa_first_no (p : Nat → Bool) : ∀ n k, k < fa_first p n → p k = false
  | 0, k, h => absurd h (Nat.not_lt_zero k)
  | n + 1, k, h => by
    have ih := fa_first_no p n
    have hl := fa_first_le p n
    unfold fa_first at h
    split at h
    · exact ih k h
    · rename_i h1
      split at h
      · exact ih k (by omega)
      · rename_i h2
        by_cases e : k = n
        · subst e
          exact Bool.eq_false_iff.mpr h2
        · exact ih k (by omega)
theorem fa_first_yes (p : Nat → Bool) : ∀ n, fa_first p n < n → p (fa_first p n) = true
  | 0, h => absurd h (Nat.not_lt_zero _)
  | n + 1, h => by
    have ih := fa_first_yes p n
    have hl := fa_first_le p n
    unfold fa_first at h ⊢
    split at h
    · rename_i h1
      rw [if_pos h1]
      exact ih h1
    · rename_i h1
      rw [if_neg h1]
      split at h
      · rename_i h2
        rw [if_pos h2]
        exact h2
      · omega
/-- how many k < n have p k -/
def fa_cnt (p : Nat → Bool) : Nat → Nat
  | 0 => 0
  | n + 1 => fa_cnt p n + if p n then 1 else 0
theorem fa_cnt_le (p : Nat → Bool) : ∀ n, fa_cnt p n ≤ n
  | 0 => Nat.le_refl 0
  | n + 1 => by
    have ih := fa_cnt_le p n
    unfold fa_cnt
    split
    · omega
    · omega
theorem fa_cnt_yes {p : Nat → Bool} {n : Nat} (h : p n = true) : fa_cnt p (n + 1) = fa_cnt p n + 1 := by rw [fa_cnt, if_pos h]
theorem fa_cnt_no {p : Nat → Bool} {n : Nat} (h : p n = false) : fa_cnt p (n + 1) = fa_cnt p n := by rw [fa_cnt, if_neg (by rw [h]; decide)]; rfl
theorem fa_cnt_cong {p q : Nat → Bool} : ∀ {n : Nat}, (∀ k, k < n → p k = q k) → fa_cnt p n = fa_cnt q n
  | 0, _ => rfl
  | n + 1, h => by rw [fa_cnt, fa_cnt, fa_cnt_cong (fun k hk => h k (Nat.lt_succ_of_lt hk)), h n (Nat.lt_succ_self n)]
/-! ===== an answer carried into a post; a branch on a boolean answer ===== -/
theorem fa_post {α : Type} {P : α → Prop} {x y : α} (h : x = y) (hp : P y) : P x := h ▸ hp
theorem fa_post2 {α β : Type} {P : α → β → Prop} {x y : α} {u v : β} (h : x = y) (h2 : u = v) (hp : P y v) : P x u := h ▸ h2 ▸ hp
theorem fa_bool {r : Int32} {b : Bool} (h : r = if b then 1 else 0) : (r = 0 ↔ b = false) ∧ (¬ r = 0 ↔ b = true) := by
  subst h
  cases b
  · exact ⟨⟨fun _ => rfl, fun _ => rfl⟩, ⟨fun h => absurd rfl h, fun h => absurd h (by decide)⟩⟩
  · exact ⟨⟨fun h => absurd h (by decide), fun h => absurd h (by decide)⟩, ⟨fun _ => rfl, fun _ => by decide⟩⟩
/-- a boolean's narrowing changes nothing -/
theorem fa_bool_and {r : Int32} (h : r = 0 ∨ r = 1) : r &&& 1 = r := by
  rcases h with rfl | rfl
  · decide
  · decide
theorem fa_bool_prop {c : Prop} [Decidable c] {r : Int32} (h : r = if c then 1 else 0) : (r = 0 ↔ ¬ c) ∧ (¬ r = 0 ↔ c) := by
  subst h
  by_cases hc : c
  · rw [if_pos hc]
    exact ⟨⟨fun h => absurd h (by decide), fun h => absurd hc h⟩, ⟨fun _ => hc, fun _ => by decide⟩⟩
  · rw [if_neg hc]
    exact ⟨⟨fun _ => hc, fun _ => rfl⟩, ⟨fun h => absurd rfl h, fun h => absurd h hc⟩⟩
end
section
section RB3
variable {Z : rb_Z} {G : rb_G} {cc : ByteArray} {nL : Nat} {own : String} {k pc : Nat} {L S : List Value} {h : rb_H}
/-- one case of a switch split off -/
theorem rc_tabC (X : rb_CX Z G cc nL own k) {dflt lo hi : Int} {offs : Array Int} {len i : Nat} {x v : Int32} {off : Int} {tgt : Nat} (d : decode cc pc = .ok (.tableswitch dflt lo hi offs, len)) (hv : v.toInt = lo + i) (hv2 : lo + i ≤ hi) (ho : offs[i]? = some off) (ht : (pc : Int) + off = (tgt : Int)) (kt : x = v → rb_WP Z G nL tgt L S h) (kf : ¬ x = v → rb_WP Z G nL pc L (.int x :: S) h) : rb_WP Z G nL pc L (.int x :: S) h := by
  by_cases hx : x = v
  · have e1 : (x.toInt - lo).toNat = i := by rw [hx, hv]; omega
    exact rb_tabIn X d (by rw [hx, hv]; omega) (by rw [hx, hv]; omega) (by rw [e1]; exact ho) ht (kt hx)
  · exact kf hx
end RB3
/-! numbers -/
theorem sp_lt8 {x : Int32} (h1 : 0 ≤ x) (h2 : ¬ (8 : Int32) ≤ x) : ∃ q, q < 8 ∧ x = nI q := by
  have a := Int32.le_iff_toInt_le.mp h1
  have b : ¬ (8 : Int32).toInt ≤ x.toInt := fun z => h2 (Int32.le_iff_toInt_le.mpr z)
  have c : (8 : Int32).toInt = 8 := by decide
  have c0 : (0 : Int32).toInt = 0 := by decide
  rw [c0] at a; rw [c] at b
  refine ⟨x.toInt.toNat, by omega, ?_⟩
  apply Int32.toInt_inj.mp
  rw [nI_toInt (by omega)]
  omega
theorem sp_geI {i n : Nat} {x : Int32} (hx : x = nI n) (hn : n < 2 ^ 31) (hi : i < 2 ^ 31) : (x ≤ nI i) ↔ n ≤ i := by rw [hx]; exact nI_leI hn hi
/-! what a kind eats, needs, grows -/
def sp_eats (k b a : Int32) : Int32 := if k = 1 then 2 * (b / 10 + 1) else if k = 2 then 1 else if k = 3 then (if 0 < b / 10 + 1 - a / 10 then b / 10 + 1 - a / 10 else 0) else if k = 4 then 2 * (b / 10 + 1) + 3 else if k = 5 then 0 else b / 10 + 1
def sp_big (b : Int32) : Int32 := if b < 20 then 1 else 3
def sp_needs (k b : Int32) : Int32 := if k = 1 then sp_big b else if k = 2 then 6 else if k = 3 then 4 else if k = 4 then sp_big b - 1 else if k = 5 then 7 else 3
def sp_grows (k b a : Int32) : Int32 := if k = 1 then b / 10 + 1 else if k = 2 then 0 else if k = 3 then (if a - a / 2 * 2 = 0 then 1 else 0) else if k = 4 then b / 10 + 1 else if k = 5 then 0 else 1
/-! a town: rows 0 beds, 1 larders, 2 leans, 3 lodgers (recounted), 4 rumours, 5 kinds, 6 events, 7 bulks, 8 ages, 9 places, 10 day, 11 true -/
def sp_n (T : rb_T) : Nat := (T 4 0).toNatClampNeg
def sp_cnt (T : rb_T) (q : Nat) : Nat := fb_ct (fun r => decide (T 9 r = nI q)) (sp_n T)
def sp_cn (T : rb_T) : Nat → Int32 := fun q => nI (sp_cnt T q)
/-- the town as the class holds it -/
def wl (T : rb_T) : rb_T := va_up T 3 (sp_cn T)
def u2 (T : rb_T) (j i : Nat) (v : Int32) : rb_T := va_up T j (va_up (T j) i v)
def rb_st (h : rb_H) (o : Nat) (M : rb_T) : rb_H := (va_up h.1 o M, h.2)
abbrev tw (h : rb_H) (t : Nat) (T : rb_T) : rb_H := rb_st h t (wl T)
def sp_okR (T : rb_T) (r : Nat) : Prop := (∃ k, k < 6 ∧ T 5 r = nI k) ∧ (∃ e, e < 16 ∧ T 6 r = nI e) ∧ (∃ b, b ≤ 99 ∧ T 7 r = nI b) ∧ (∃ a, a ≤ 999 ∧ T 8 r = nI a) ∧ (T 9 r = -1 ∨ ∃ p, p < 8 ∧ T 9 r = nI p)
def sp_okH (T : rb_T) (q : Nat) : Prop := (∃ b, b ≤ 3 ∧ T 0 q = nI b) ∧ (∃ l, l ≤ 999 ∧ T 1 q = nI l) ∧ (∃ l, l ≤ 9 ∧ T 2 q = nI l)
def sp_ok (T : rb_T) : Prop := T 4 0 = nI (sp_n T) ∧ sp_n T ≤ 10 ∧ (∀ r, r < 10 → sp_okR T r) ∧ (∀ q, q < 8 → sp_okH T q)
theorem rb_st_at (h : rb_H) (o : Nat) (M : rb_T) : (rb_st h o M).1 o = M := by simp [rb_st, va_up]
theorem rb_st_ne {h : rb_H} {o o' : Nat} {M : rb_T} (hn : o' ≠ o) : (rb_st h o M).1 o' = h.1 o' := by simp [rb_st, va_up, hn]
theorem rb_st_st {h : rb_H} {o : Nat} {M M' : rb_T} : rb_st (rb_st h o M) o M' = rb_st h o M' := by
  unfold rb_st
  congr 1
  funext q
  simp only [va_up]
  split <;> rfl
theorem rb_st_self {h : rb_H} {o : Nat} {M : rb_T} (e : h.1 o = M) : rb_st h o M = h := by
  unfold rb_st
  have : va_up h.1 o M = h.1 := by
    funext q
    simp only [va_up]
    split
    · rename_i z; rw [z, e]
    · rfl
  rw [this]
theorem rb_u_st {h : rb_H} {o j i : Nat} {M : rb_T} {v : Int32} : rb_u (rb_st h o M) o j i v = rb_st h o (u2 M j i v) := by
  unfold rb_u u2
  rw [rb_st_at]
  show (va_up (va_up h.1 o M) o _, h.2) = _
  unfold rb_st
  congr 1
  funext q
  simp only [va_up]
  split <;> rfl
theorem rb_row_st {h : rb_H} {o j : Nat} {M : rb_T} {f : Nat → Int32} : rb_row (rb_st h o M) o j f = rb_st h o (va_up M j f) := by
  unfold rb_row
  rw [rb_st_at]
  show (va_up (va_up h.1 o M) o _, h.2) = _
  unfold rb_st
  congr 1
  funext q
  simp only [va_up]
  split <;> rfl
theorem rb_tj0 {h : rb_H} {t : Nat} {T : rb_T} : (tw h t T).1 t 0 = T 0 := congrFun (rb_st_at h t (wl T)) 0
theorem rb_tf0 {h : rb_H} {t : Nat} {T : rb_T} : (tw h t T).1 t 0 0 = T 0 0 := congrFun rb_tj0 0
theorem rb_tj1 {h : rb_H} {t : Nat} {T : rb_T} : (tw h t T).1 t 1 = T 1 := congrFun (rb_st_at h t (wl T)) 1
theorem rb_tf1 {h : rb_H} {t : Nat} {T : rb_T} : (tw h t T).1 t 1 0 = T 1 0 := congrFun rb_tj1 0
theorem rb_tj2 {h : rb_H} {t : Nat} {T : rb_T} : (tw h t T).1 t 2 = T 2 := congrFun (rb_st_at h t (wl T)) 2
theorem rb_tf2 {h : rb_H} {t : Nat} {T : rb_T} : (tw h t T).1 t 2 0 = T 2 0 := congrFun rb_tj2 0
theorem rb_tj3 {h : rb_H} {t : Nat} {T : rb_T} : (tw h t T).1 t 3 = sp_cn T := congrFun (rb_st_at h t (wl T)) 3
theorem rb_tf3 {h : rb_H} {t : Nat} {T : rb_T} : (tw h t T).1 t 3 0 = sp_cn T 0 := congrFun rb_tj3 0
theorem rb_tj4 {h : rb_H} {t : Nat} {T : rb_T} : (tw h t T).1 t 4 = T 4 := congrFun (rb_st_at h t (wl T)) 4
theorem rb_tf4 {h : rb_H} {t : Nat} {T : rb_T} : (tw h t T).1 t 4 0 = T 4 0 := congrFun rb_tj4 0
theorem rb_tj5 {h : rb_H} {t : Nat} {T : rb_T} : (tw h t T).1 t 5 = T 5 := congrFun (rb_st_at h t (wl T)) 5
theorem rb_tf5 {h : rb_H} {t : Nat} {T : rb_T} : (tw h t T).1 t 5 0 = T 5 0 := congrFun rb_tj5 0
theorem rb_tj6 {h : rb_H} {t : Nat} {T : rb_T} : (tw h t T).1 t 6 = T 6 := congrFun (rb_st_at h t (wl T)) 6
theorem rb_tf6 {h : rb_H} {t : Nat} {T : rb_T} : (tw h t T).1 t 6 0 = T 6 0 := congrFun rb_tj6 0
theorem rb_tj7 {h : rb_H} {t : Nat} {T : rb_T} : (tw h t T).1 t 7 = T 7 := congrFun (rb_st_at h t (wl T)) 7
theorem rb_tf7 {h : rb_H} {t : Nat} {T : rb_T} : (tw h t T).1 t 7 0 = T 7 0 := congrFun rb_tj7 0
theorem rb_tj8 {h : rb_H} {t : Nat} {T : rb_T} : (tw h t T).1 t 8 = T 8 := congrFun (rb_st_at h t (wl T)) 8
theorem rb_tf8 {h : rb_H} {t : Nat} {T : rb_T} : (tw h t T).1 t 8 0 = T 8 0 := congrFun rb_tj8 0
theorem rb_tj9 {h : rb_H} {t : Nat} {T : rb_T} : (tw h t T).1 t 9 = T 9 := congrFun (rb_st_at h t (wl T)) 9
theorem rb_tf9 {h : rb_H} {t : Nat} {T : rb_T} : (tw h t T).1 t 9 0 = T 9 0 := congrFun rb_tj9 0
theorem rb_tj10 {h : rb_H} {t : Nat} {T : rb_T} : (tw h t T).1 t 10 = T 10 := congrFun (rb_st_at h t (wl T)) 10
theorem rb_tf10 {h : rb_H} {t : Nat} {T : rb_T} : (tw h t T).1 t 10 0 = T 10 0 := congrFun rb_tj10 0
theorem rb_tj11 {h : rb_H} {t : Nat} {T : rb_T} : (tw h t T).1 t 11 = T 11 := congrFun (rb_st_at h t (wl T)) 11
theorem rb_tf11 {h : rb_H} {t : Nat} {T : rb_T} : (tw h t T).1 t 11 0 = T 11 0 := congrFun rb_tj11 0
theorem u2_same {T : rb_T} {j i : Nat} {v : Int32} : u2 T j i v j i = v := by simp [u2, va_up]
theorem u2_row {T : rb_T} {j i j' : Nat} {v : Int32} (h : j' ≠ j) : u2 T j i v j' = T j' := by simp [u2, va_up, h]
theorem u2_ne {T : rb_T} {j i i' : Nat} {v : Int32} (h : i' ≠ i) : u2 T j i v j i' = T j i' := by simp [u2, va_up, h]
theorem sp_n_u2 {T : rb_T} {j i : Nat} {v : Int32} (h : j ≠ 4) : sp_n (u2 T j i v) = sp_n T := by unfold sp_n; rw [u2_row (Ne.symm h)]
theorem sp_cn_u2 {T : rb_T} {j i : Nat} {v : Int32} (h4 : j ≠ 4) (h9 : j ≠ 9) : sp_cn (u2 T j i v) = sp_cn T := by
  funext q
  unfold sp_cn sp_cnt
  rw [sp_n_u2 h4, u2_row (Ne.symm h9)]
/-- a row that no count rests on -/
theorem wl_u2 {T : rb_T} {j i : Nat} {v : Int32} (h3 : j ≠ 3) (h4 : j ≠ 4) (h9 : j ≠ 9) : u2 (wl T) j i v = wl (u2 T j i v) := by
  unfold wl
  rw [sp_cn_u2 h4 h9]
  funext a b
  simp only [u2, va_up]
  by_cases ha : a = 3
  · subst ha; simp [Ne.symm h3]
  · by_cases hj : a = j
    · subst hj; simp [ha]
    · simp [ha, hj]
theorem tw_u {h : rb_H} {t j i : Nat} {T : rb_T} {v : Int32} (h3 : j ≠ 3) (h4 : j ≠ 4) (h9 : j ≠ 9) : rb_u (tw h t T) t j i v = tw h t (u2 T j i v) := by rw [rb_u_st, wl_u2 h3 h4 h9]
end
section
theorem sp_b0 {P : Prop} [Decidable P] : ((if P then (1 : Int32) else 0) = 0) ↔ ¬ P := by by_cases h : P <;> simp [h]
theorem sp_zn {P : Prop} [Decidable P] : narrow .boolean (.int (if P then (1 : Int32) else 0)) = .int (if P then (1 : Int32) else 0) := by by_cases h : P <;> simp [h] <;> rfl
set_option maxRecDepth 100000 in
set_option maxHeartbeats 4000000 in
theorem qX0_eats {G : rb_G} {h : rb_H} (k b a : Int32) : rb_M G 1 yX0_eats cX0_eats 6 (some .int) [.int k, .int b, .int a] (h) (rb_F (some (.int (sp_eats k b a))) (h)) := by
  refine rb_meth (L := [.int k, .int b, .int a, .null, .null, .null]) (by decide) (Nat.le_of_ble_eq_true rfl) rfl (fun Z X Y => ?_)
  have X : rb_CX Z G cX0_eats 6 RX0 1 := X
  refine rb_iload_n X (pc := 0) dX0_eats_0 rfl rfl ?_
  refine rb_bipush (v := 10) X (pc := 1) dX0_eats_1 (by decide) ?_
  refine rb_idiv X (pc := 3) dX0_eats_3 (by decide) ?_
  refine rb_iconst (v := 1) X (pc := 4) dX0_eats_4 (by decide) ?_
  refine rb_iadd X (pc := 5) dX0_eats_5 ?_
  refine rb_istore_n X (pc := 6) dX0_eats_6 rfl (by decide) rfl rfl ?_
  refine rb_iconst (v := 2) X (pc := 7) dX0_eats_7 (by decide) ?_
  refine rb_iload_n X (pc := 8) dX0_eats_8 rfl rfl ?_
  refine rb_imul X (pc := 9) dX0_eats_9 ?_
  refine rb_istore X (pc := 10) dX0_eats_10 (by decide) rfl rfl ?_
  refine rb_iconst (v := 1) X (pc := 12) dX0_eats_12 (by decide) ?_
  refine rb_istore X (pc := 13) dX0_eats_13 (by decide) rfl rfl ?_
  refine rb_iload_n X (pc := 15) dX0_eats_15 rfl rfl ?_
  refine rc_tabC X (pc := 16) (v := 1) (i := 0) (tgt := 52) dX0_eats_16 (by decide) (by decide) rfl (by decide) (fun c16 => ?_) (fun n16_1 => ?_)
  · refine rb_iload X (pc := 52) dX0_eats_52 rfl ?_
    refine rb_iret (S := []) X (pc := 54) Y dX0_eats_54 ?_
    exact ⟨by simp [sp_eats, *], rfl⟩
  refine rc_tabC X (pc := 16) (v := 2) (i := 1) (tgt := 55) dX0_eats_16 (by decide) (by decide) rfl (by decide) (fun c16 => ?_) (fun n16_2 => ?_)
  · refine rb_iload X (pc := 55) dX0_eats_55 rfl ?_
    refine rb_iret (S := []) X (pc := 57) Y dX0_eats_57 ?_
    exact ⟨by simp [sp_eats, *], rfl⟩
  refine rc_tabC X (pc := 16) (v := 3) (i := 2) (tgt := 58) dX0_eats_16 (by decide) (by decide) rfl (by decide) (fun c16 => ?_) (fun n16_3 => ?_)
  · refine rb_iconst (v := 0) X (pc := 58) dX0_eats_58 (by decide) ?_
    refine rb_iload_n X (pc := 59) dX0_eats_59 rfl rfl ?_
    refine rb_iload_n X (pc := 60) dX0_eats_60 rfl rfl ?_
    refine rb_bipush (v := 10) X (pc := 61) dX0_eats_61 (by decide) ?_
    refine rb_idiv X (pc := 63) dX0_eats_63 (by decide) ?_
    refine rb_isub X (pc := 64) dX0_eats_64 ?_
    refine rc_mmax X (pc := 65) mX0_13 (by decide) (by decide) dX0_eats_65 ?_
    refine rb_iret (S := []) X (pc := 68) Y dX0_eats_68 ?_
    exact ⟨by simp [sp_eats, *], rfl⟩
  refine rc_tabC X (pc := 16) (v := 4) (i := 3) (tgt := 69) dX0_eats_16 (by decide) (by decide) rfl (by decide) (fun c16 => ?_) (fun n16_4 => ?_)
  · refine rb_iload X (pc := 69) dX0_eats_69 rfl ?_
    refine rb_iconst (v := 3) X (pc := 71) dX0_eats_71 (by decide) ?_
    refine rb_iadd X (pc := 72) dX0_eats_72 ?_
    refine rb_iret (S := []) X (pc := 73) Y dX0_eats_73 ?_
    exact ⟨by simp [sp_eats, *], rfl⟩
  refine rc_tabC X (pc := 16) (v := 5) (i := 4) (tgt := 74) dX0_eats_16 (by decide) (by decide) rfl (by decide) (fun c16 => ?_) (fun n16_5 => ?_)
  · refine rb_iload X (pc := 74) dX0_eats_74 rfl ?_
    refine rb_iconst (v := 1) X (pc := 76) dX0_eats_76 (by decide) ?_
    refine rb_isub X (pc := 77) dX0_eats_77 ?_
    refine rb_iret (S := []) X (pc := 78) Y dX0_eats_78 ?_
    exact ⟨by simp [sp_eats, *], rfl⟩
  refine rb_tabOut X (pc := 16) (tgt := 79) dX0_eats_16 (by have z1 := lv_neT n16_1 (a := 1) rfl; have z2 := lv_neT n16_2 (a := 2) rfl; have z3 := lv_neT n16_3 (a := 3) rfl; have z4 := lv_neT n16_4 (a := 4) rfl; have z5 := lv_neT n16_5 (a := 5) rfl; omega) (by decide) ?_
  refine rb_iload_n X (pc := 79) dX0_eats_79 rfl rfl ?_
  refine rb_iret (S := []) X (pc := 80) Y dX0_eats_80 ?_
  exact ⟨by simp [sp_eats, *], rfl⟩
set_option maxRecDepth 100000 in
set_option maxHeartbeats 4000000 in
theorem qX0_needs {G : rb_G} {h : rb_H} (k b : Int32) : rb_M G 0 yX0_needs cX0_needs 5 (some .int) [.int k, .int b] (h) (rb_F (some (.int (sp_needs k b))) (h)) := by
  refine rb_meth (L := [.int k, .int b, .null, .null, .null]) (by decide) (Nat.le_of_ble_eq_true rfl) rfl (fun Z X Y => ?_)
  have X : rb_CX Z G cX0_needs 5 RX0 0 := X
  refine rb_iconst (v := 3) X (pc := 0) dX0_needs_0 (by decide) ?_
  refine rb_istore_n X (pc := 1) dX0_needs_1 rfl (by decide) rfl rfl ?_
  refine rb_iload_n X (pc := 2) dX0_needs_2 rfl rfl ?_
  refine rb_bipush (v := 20) X (pc := 3) dX0_needs_3 (by decide) ?_
  refine rb_icmp_ge X (pc := 5) (tgt := 12) dX0_needs_5 (by decide) (fun c5 => ?_) (fun c5 => ?_)
  · have c5 := Int32.not_lt.mpr c5
    refine rb_iload_n X (pc := 12) dX0_needs_12 rfl rfl ?_
    refine rb_istore_n X (pc := 13) dX0_needs_13 rfl (by decide) rfl rfl ?_
    refine rb_iconst (v := 2) X (pc := 14) dX0_needs_14 (by decide) ?_
    refine rb_iload_n X (pc := 15) dX0_needs_15 rfl rfl ?_
    refine rb_imul X (pc := 16) dX0_needs_16 ?_
    refine rb_istore X (pc := 17) dX0_needs_17 (by decide) rfl rfl ?_
    refine rb_iload_n X (pc := 19) dX0_needs_19 rfl rfl ?_
    refine rc_tabC X (pc := 20) (v := 1) (i := 0) (tgt := 56) dX0_needs_20 (by decide) (by decide) rfl (by decide) (fun c20 => ?_) (fun n20_1 => ?_)
    · refine rb_iload_n X (pc := 56) dX0_needs_56 rfl rfl ?_
      refine rb_iret (S := []) X (pc := 57) Y dX0_needs_57 ?_
      exact ⟨by simp [sp_needs, sp_big, *], rfl⟩
    refine rc_tabC X (pc := 20) (v := 2) (i := 1) (tgt := 58) dX0_needs_20 (by decide) (by decide) rfl (by decide) (fun c20 => ?_) (fun n20_2 => ?_)
    · refine rb_iload X (pc := 58) dX0_needs_58 rfl ?_
      refine rb_iret (S := []) X (pc := 60) Y dX0_needs_60 ?_
      exact ⟨by simp [sp_needs, sp_big, *], rfl⟩
    refine rc_tabC X (pc := 20) (v := 3) (i := 2) (tgt := 61) dX0_needs_20 (by decide) (by decide) rfl (by decide) (fun c20 => ?_) (fun n20_3 => ?_)
    · refine rb_iload_n X (pc := 61) dX0_needs_61 rfl rfl ?_
      refine rb_iconst (v := 1) X (pc := 62) dX0_needs_62 (by decide) ?_
      refine rb_iadd X (pc := 63) dX0_needs_63 ?_
      refine rb_iret (S := []) X (pc := 64) Y dX0_needs_64 ?_
      exact ⟨by simp [sp_needs, sp_big, *], rfl⟩
    refine rc_tabC X (pc := 20) (v := 4) (i := 3) (tgt := 65) dX0_needs_20 (by decide) (by decide) rfl (by decide) (fun c20 => ?_) (fun n20_4 => ?_)
    · refine rb_iload_n X (pc := 65) dX0_needs_65 rfl rfl ?_
      refine rb_iconst (v := 1) X (pc := 66) dX0_needs_66 (by decide) ?_
      refine rb_isub X (pc := 67) dX0_needs_67 ?_
      refine rb_iret (S := []) X (pc := 68) Y dX0_needs_68 ?_
      exact ⟨by simp [sp_needs, sp_big, *], rfl⟩
    refine rc_tabC X (pc := 20) (v := 5) (i := 4) (tgt := 69) dX0_needs_20 (by decide) (by decide) rfl (by decide) (fun c20 => ?_) (fun n20_5 => ?_)
    · refine rb_iload X (pc := 69) dX0_needs_69 rfl ?_
      refine rb_iconst (v := 1) X (pc := 71) dX0_needs_71 (by decide) ?_
      refine rb_iadd X (pc := 72) dX0_needs_72 ?_
      refine rb_iret (S := []) X (pc := 73) Y dX0_needs_73 ?_
      exact ⟨by simp [sp_needs, sp_big, *], rfl⟩
    refine rb_tabOut X (pc := 20) (tgt := 74) dX0_needs_20 (by have z1 := lv_neT n20_1 (a := 1) rfl; have z2 := lv_neT n20_2 (a := 2) rfl; have z3 := lv_neT n20_3 (a := 3) rfl; have z4 := lv_neT n20_4 (a := 4) rfl; have z5 := lv_neT n20_5 (a := 5) rfl; omega) (by decide) ?_
    refine rb_iload_n X (pc := 74) dX0_needs_74 rfl rfl ?_
    refine rb_iret (S := []) X (pc := 75) Y dX0_needs_75 ?_
    exact ⟨by simp [sp_needs, sp_big, *], rfl⟩
  · have c5 := Int32.not_le.mp c5
    refine rb_iconst (v := 1) X (pc := 8) dX0_needs_8 (by decide) ?_
    refine rb_goto X (pc := 9) (tgt := 13) dX0_needs_9 (by decide) ?_
    refine rb_istore_n X (pc := 13) dX0_needs_13 rfl (by decide) rfl rfl ?_
    refine rb_iconst (v := 2) X (pc := 14) dX0_needs_14 (by decide) ?_
    refine rb_iload_n X (pc := 15) dX0_needs_15 rfl rfl ?_
    refine rb_imul X (pc := 16) dX0_needs_16 ?_
    refine rb_istore X (pc := 17) dX0_needs_17 (by decide) rfl rfl ?_
    refine rb_iload_n X (pc := 19) dX0_needs_19 rfl rfl ?_
    refine rc_tabC X (pc := 20) (v := 1) (i := 0) (tgt := 56) dX0_needs_20 (by decide) (by decide) rfl (by decide) (fun c20 => ?_) (fun n20_1 => ?_)
    · refine rb_iload_n X (pc := 56) dX0_needs_56 rfl rfl ?_
      refine rb_iret (S := []) X (pc := 57) Y dX0_needs_57 ?_
      exact ⟨by simp [sp_needs, sp_big, *], rfl⟩
    refine rc_tabC X (pc := 20) (v := 2) (i := 1) (tgt := 58) dX0_needs_20 (by decide) (by decide) rfl (by decide) (fun c20 => ?_) (fun n20_2 => ?_)
    · refine rb_iload X (pc := 58) dX0_needs_58 rfl ?_
      refine rb_iret (S := []) X (pc := 60) Y dX0_needs_60 ?_
      exact ⟨by simp [sp_needs, sp_big, *], rfl⟩
    refine rc_tabC X (pc := 20) (v := 3) (i := 2) (tgt := 61) dX0_needs_20 (by decide) (by decide) rfl (by decide) (fun c20 => ?_) (fun n20_3 => ?_)
    · refine rb_iload_n X (pc := 61) dX0_needs_61 rfl rfl ?_
      refine rb_iconst (v := 1) X (pc := 62) dX0_needs_62 (by decide) ?_
      refine rb_iadd X (pc := 63) dX0_needs_63 ?_
      refine rb_iret (S := []) X (pc := 64) Y dX0_needs_64 ?_
      exact ⟨by simp [sp_needs, sp_big, *], rfl⟩
    refine rc_tabC X (pc := 20) (v := 4) (i := 3) (tgt := 65) dX0_needs_20 (by decide) (by decide) rfl (by decide) (fun c20 => ?_) (fun n20_4 => ?_)
    · refine rb_iload_n X (pc := 65) dX0_needs_65 rfl rfl ?_
      refine rb_iconst (v := 1) X (pc := 66) dX0_needs_66 (by decide) ?_
      refine rb_isub X (pc := 67) dX0_needs_67 ?_
      refine rb_iret (S := []) X (pc := 68) Y dX0_needs_68 ?_
      exact ⟨by simp [sp_needs, sp_big, *], rfl⟩
    refine rc_tabC X (pc := 20) (v := 5) (i := 4) (tgt := 69) dX0_needs_20 (by decide) (by decide) rfl (by decide) (fun c20 => ?_) (fun n20_5 => ?_)
    · refine rb_iload X (pc := 69) dX0_needs_69 rfl ?_
      refine rb_iconst (v := 1) X (pc := 71) dX0_needs_71 (by decide) ?_
      refine rb_iadd X (pc := 72) dX0_needs_72 ?_
      refine rb_iret (S := []) X (pc := 73) Y dX0_needs_73 ?_
      exact ⟨by simp [sp_needs, sp_big, *], rfl⟩
    refine rb_tabOut X (pc := 20) (tgt := 74) dX0_needs_20 (by have z1 := lv_neT n20_1 (a := 1) rfl; have z2 := lv_neT n20_2 (a := 2) rfl; have z3 := lv_neT n20_3 (a := 3) rfl; have z4 := lv_neT n20_4 (a := 4) rfl; have z5 := lv_neT n20_5 (a := 5) rfl; omega) (by decide) ?_
    refine rb_iload_n X (pc := 74) dX0_needs_74 rfl rfl ?_
    refine rb_iret (S := []) X (pc := 75) Y dX0_needs_75 ?_
    exact ⟨by simp [sp_needs, sp_big, *], rfl⟩
set_option maxRecDepth 100000 in
set_option maxHeartbeats 4000000 in
theorem qX0_grows {G : rb_G} {h : rb_H} (k b a : Int32) : rb_M G 0 yX0_grows cX0_grows 4 (some .int) [.int k, .int b, .int a] (h) (rb_F (some (.int (sp_grows k b a))) (h)) := by
  refine rb_meth (L := [.int k, .int b, .int a, .null]) (by decide) (Nat.le_of_ble_eq_true rfl) rfl (fun Z X Y => ?_)
  have X : rb_CX Z G cX0_grows 4 RX0 0 := X
  refine rb_iconst (v := 1) X (pc := 0) dX0_grows_0 (by decide) ?_
  refine rb_istore_n X (pc := 1) dX0_grows_1 rfl (by decide) rfl rfl ?_
  refine rb_iload_n X (pc := 2) dX0_grows_2 rfl rfl ?_
  refine rc_tabC X (pc := 3) (v := 1) (i := 0) (tgt := 36) dX0_grows_3 (by decide) (by decide) rfl (by decide) (fun c3 => ?_) (fun n3_1 => ?_)
  · refine rb_iload_n X (pc := 36) dX0_grows_36 rfl rfl ?_
    refine rb_bipush (v := 10) X (pc := 37) dX0_grows_37 (by decide) ?_
    refine rb_idiv X (pc := 39) dX0_grows_39 (by decide) ?_
    refine rb_iload_n X (pc := 40) dX0_grows_40 rfl rfl ?_
    refine rb_iadd X (pc := 41) dX0_grows_41 ?_
    refine rb_iret (S := []) X (pc := 42) Y dX0_grows_42 ?_
    exact ⟨by simp_all [sp_grows], rfl⟩
  refine rc_tabC X (pc := 3) (v := 2) (i := 1) (tgt := 43) dX0_grows_3 (by decide) (by decide) rfl (by decide) (fun c3 => ?_) (fun n3_2 => ?_)
  · refine rb_iconst (v := 0) X (pc := 43) dX0_grows_43 (by decide) ?_
    refine rb_iret (S := []) X (pc := 44) Y dX0_grows_44 ?_
    exact ⟨by simp_all [sp_grows], rfl⟩
  refine rc_tabC X (pc := 3) (v := 3) (i := 2) (tgt := 45) dX0_grows_3 (by decide) (by decide) rfl (by decide) (fun c3 => ?_) (fun n3_3 => ?_)
  · refine rb_iload_n X (pc := 45) dX0_grows_45 rfl rfl ?_
    refine rb_iconst (v := 2) X (pc := 46) dX0_grows_46 (by decide) ?_
    refine rb_irem X (pc := 47) dX0_grows_47 (by decide) ?_
    refine rb_if_ne X (pc := 48) (tgt := 55) dX0_grows_48 (by decide) (fun c48 => ?_) (fun c48 => ?_)
    · refine rb_iconst (v := 0) X (pc := 55) dX0_grows_55 (by decide) ?_
      refine rb_iret (S := []) X (pc := 56) Y dX0_grows_56 ?_
      exact ⟨by simp_all [sp_grows], rfl⟩
    · refine rb_iload_n X (pc := 51) dX0_grows_51 rfl rfl ?_
      refine rb_goto X (pc := 52) (tgt := 56) dX0_grows_52 (by decide) ?_
      refine rb_iret (S := []) X (pc := 56) Y dX0_grows_56 ?_
      exact ⟨by simp_all [sp_grows], rfl⟩
  refine rc_tabC X (pc := 3) (v := 4) (i := 3) (tgt := 36) dX0_grows_3 (by decide) (by decide) rfl (by decide) (fun c3 => ?_) (fun n3_4 => ?_)
  · refine rb_iload_n X (pc := 36) dX0_grows_36 rfl rfl ?_
    refine rb_bipush (v := 10) X (pc := 37) dX0_grows_37 (by decide) ?_
    refine rb_idiv X (pc := 39) dX0_grows_39 (by decide) ?_
    refine rb_iload_n X (pc := 40) dX0_grows_40 rfl rfl ?_
    refine rb_iadd X (pc := 41) dX0_grows_41 ?_
    refine rb_iret (S := []) X (pc := 42) Y dX0_grows_42 ?_
    exact ⟨by simp_all [sp_grows], rfl⟩
  refine rc_tabC X (pc := 3) (v := 5) (i := 4) (tgt := 43) dX0_grows_3 (by decide) (by decide) rfl (by decide) (fun c3 => ?_) (fun n3_5 => ?_)
  · refine rb_iconst (v := 0) X (pc := 43) dX0_grows_43 (by decide) ?_
    refine rb_iret (S := []) X (pc := 44) Y dX0_grows_44 ?_
    exact ⟨by simp_all [sp_grows], rfl⟩
  refine rb_tabOut X (pc := 3) (tgt := 57) dX0_grows_3 (by have z1 := lv_neT n3_1 (a := 1) rfl; have z2 := lv_neT n3_2 (a := 2) rfl; have z3 := lv_neT n3_3 (a := 3) rfl; have z4 := lv_neT n3_4 (a := 4) rfl; have z5 := lv_neT n3_5 (a := 5) rfl; omega) (by decide) ?_
  refine rb_iload_n X (pc := 57) dX0_grows_57 rfl rfl ?_
  refine rb_iret (S := []) X (pc := 58) Y dX0_grows_58 ?_
  exact ⟨by simp_all [sp_grows], rfl⟩
def sp_nm (k : Int32) : Nat := if k = 1 then 1 else if k = 2 then 2 else if k = 3 then 3 else if k = 4 then 4 else if k = 5 then 5 else 0
set_option maxRecDepth 100000 in
set_option maxHeartbeats 4000000 in
theorem qX0_nameOf {G : rb_G} {h : rb_H} (k : Int32) : rb_M G 0 yX0_nameOf cX0_nameOf 1 (some (.object "java/lang/String")) [.int k] (h) (rb_F (some (.ref (G.2.2.2.1 (sp_nm k)))) h) := by
  refine rb_meth (L := [.int k]) (by decide) (Nat.le_of_ble_eq_true rfl) rfl (fun Z X Y => ?_)
  have X : rb_CX Z G cX0_nameOf 1 RX0 0 := X
  refine rb_iload_n X (pc := 0) dX0_nameOf_0 rfl rfl ?_
  refine rc_tabC X (pc := 1) (v := 1) (i := 0) (tgt := 36) dX0_nameOf_1 (by decide) (by decide) rfl (by decide) (fun c1 => ?_) (fun n1_1 => ?_)
  · refine rb_ldcS X (pc := 36) 1 (by decide) rfl rfl dX0_nameOf_36 ?_
    refine rb_aret (S := []) X (pc := 38) Y dX0_nameOf_38 ?_
    exact ⟨by simp_all [sp_nm], rfl⟩
  refine rc_tabC X (pc := 1) (v := 2) (i := 1) (tgt := 39) dX0_nameOf_1 (by decide) (by decide) rfl (by decide) (fun c1 => ?_) (fun n1_2 => ?_)
  · refine rb_ldcS X (pc := 39) 2 (by decide) rfl rfl dX0_nameOf_39 ?_
    refine rb_aret (S := []) X (pc := 41) Y dX0_nameOf_41 ?_
    exact ⟨by simp_all [sp_nm], rfl⟩
  refine rc_tabC X (pc := 1) (v := 3) (i := 2) (tgt := 42) dX0_nameOf_1 (by decide) (by decide) rfl (by decide) (fun c1 => ?_) (fun n1_3 => ?_)
  · refine rb_ldcS X (pc := 42) 3 (by decide) rfl rfl dX0_nameOf_42 ?_
    refine rb_aret (S := []) X (pc := 44) Y dX0_nameOf_44 ?_
    exact ⟨by simp_all [sp_nm], rfl⟩
  refine rc_tabC X (pc := 1) (v := 4) (i := 3) (tgt := 45) dX0_nameOf_1 (by decide) (by decide) rfl (by decide) (fun c1 => ?_) (fun n1_4 => ?_)
  · refine rb_ldcS X (pc := 45) 4 (by decide) rfl rfl dX0_nameOf_45 ?_
    refine rb_aret (S := []) X (pc := 47) Y dX0_nameOf_47 ?_
    exact ⟨by simp_all [sp_nm], rfl⟩
  refine rc_tabC X (pc := 1) (v := 5) (i := 4) (tgt := 48) dX0_nameOf_1 (by decide) (by decide) rfl (by decide) (fun c1 => ?_) (fun n1_5 => ?_)
  · refine rb_ldcS X (pc := 48) 5 (by decide) rfl rfl dX0_nameOf_48 ?_
    refine rb_aret (S := []) X (pc := 50) Y dX0_nameOf_50 ?_
    exact ⟨by simp_all [sp_nm], rfl⟩
  refine rb_tabOut X (pc := 1) (tgt := 51) dX0_nameOf_1 (by have z1 := lv_neT n1_1 (a := 1) rfl; have z2 := lv_neT n1_2 (a := 2) rfl; have z3 := lv_neT n1_3 (a := 3) rfl; have z4 := lv_neT n1_4 (a := 4) rfl; have z5 := lv_neT n1_5 (a := 5) rfl; omega) (by decide) ?_
  refine rb_ldcS X (pc := 51) 0 (by decide) rfl rfl dX0_nameOf_51 ?_
  refine rb_aret (S := []) X (pc := 53) Y dX0_nameOf_53 ?_
  exact ⟨by simp_all [sp_nm], rfl⟩
set_option maxRecDepth 100000 in
set_option maxHeartbeats 4000000 in
theorem qX3_isFull {G : rb_G} {h : rb_H} {t : Nat} {T : rb_T} (ht : t < 3)  : rb_M G 0 yX3_isFull cX3_isFull 1 (some .boolean) [.ref (rb_ad G t 0)] (tw h t T) (rb_F (some (.int (if (10 : Int32) ≤ T 4 0 then 1 else 0))) (tw h t T)) := by
  refine rb_meth (L := [.ref (rb_ad G t 0)]) (by decide) (Nat.le_of_ble_eq_true rfl) rfl (fun Z X Y => ?_)
  have X : rb_CX Z G cX3_isFull 1 RX3 0 := X
  refine rb_aload_n X (pc := 0) dX3_isFull_0 rfl rfl ?_
  refine rc_getI X (pc := 1) fX3_24 (rb_obT ht) rfl rb_tf4 dX3_isFull_1 ?_
  refine rb_bipush (v := 10) X (pc := 4) dX3_isFull_4 (by decide) ?_
  refine rb_icmp_lt X (pc := 6) (tgt := 13) dX3_isFull_6 (by decide) (fun c6 => ?_) (fun c6 => ?_)
  · refine rb_iconst (v := 0) X (pc := 13) dX3_isFull_13 (by decide) ?_
    refine rb_zret (S := []) X (pc := 14) Y dX3_isFull_14 rfl ?_
    exact ⟨by simp_all, rfl⟩
  · refine rb_iconst (v := 1) X (pc := 9) dX3_isFull_9 (by decide) ?_
    refine rb_goto X (pc := 10) (tgt := 14) dX3_isFull_10 (by decide) ?_
    refine rb_zret (S := []) X (pc := 14) Y dX3_isFull_14 rfl ?_
    exact ⟨by simp_all, rfl⟩
set_option maxRecDepth 100000 in
set_option maxHeartbeats 4000000 in
theorem qX3_eatsOf {G : rb_G} {h : rb_H} {t : Nat} {T : rb_T} (ht : t < 3) {r : Nat} (hr : r < 10) : rb_M G 2 yX3_eatsOf cX3_eatsOf 2 (some .int) [.ref (rb_ad G t 0), .int (nI r)] (tw h t T) (rb_F (some (.int (sp_eats (T 5 r) (T 7 r) (T 8 r)))) (tw h t T)) := by
  refine rb_meth (L := [.ref (rb_ad G t 0), .int (nI r)]) (by decide) (Nat.le_of_ble_eq_true rfl) rfl (fun Z X Y => ?_)
  have X : rb_CX Z G cX3_eatsOf 2 RX3 2 := X
  refine rb_aload_n X (pc := 0) dX3_eatsOf_0 rfl rfl ?_
  refine rc_getR X (pc := 1) fX3_28 (rb_obT ht) rfl dX3_eatsOf_1 ?_
  refine rb_iload_n X (pc := 4) dX3_eatsOf_4 rfl rfl ?_
  refine rc_iald X (pc := 5) _ (rb_arT5 ht) rb_tj5 rfl (by omega) dX3_eatsOf_5 ?_
  refine rb_aload_n X (pc := 6) dX3_eatsOf_6 rfl rfl ?_
  refine rc_getR X (pc := 7) fX3_34 (rb_obT ht) rfl dX3_eatsOf_7 ?_
  refine rb_iload_n X (pc := 10) dX3_eatsOf_10 rfl rfl ?_
  refine rc_iald X (pc := 11) _ (rb_arT7 ht) rb_tj7 rfl (by omega) dX3_eatsOf_11 ?_
  refine rb_aload_n X (pc := 12) dX3_eatsOf_12 rfl rfl ?_
  refine rc_getR X (pc := 13) fX3_37 (rb_obT ht) rfl dX3_eatsOf_13 ?_
  refine rb_iload_n X (pc := 16) dX3_eatsOf_16 rfl rfl ?_
  refine rc_iald X (pc := 17) _ (rb_arT8 ht) rb_tj8 rfl (by omega) dX3_eatsOf_17 ?_
  refine rc_callSi X (pc := 18) cvX0_eats mX3_59 (qX0_eats _ _ _) (by decide) rfl rfl (by decide) dX3_eatsOf_18 ?_
  refine rb_iret (S := []) X (pc := 21) Y dX3_eatsOf_21 ?_
  exact ⟨rfl, rfl⟩
set_option maxRecDepth 100000 in
set_option maxHeartbeats 4000000 in
theorem qX3_needsOf {G : rb_G} {h : rb_H} {t : Nat} {T : rb_T} (ht : t < 3) {r : Nat} (hr : r < 10) : rb_M G 1 yX3_needsOf cX3_needsOf 2 (some .int) [.ref (rb_ad G t 0), .int (nI r)] (tw h t T) (rb_F (some (.int (sp_needs (T 5 r) (T 7 r)))) (tw h t T)) := by
  refine rb_meth (L := [.ref (rb_ad G t 0), .int (nI r)]) (by decide) (Nat.le_of_ble_eq_true rfl) rfl (fun Z X Y => ?_)
  have X : rb_CX Z G cX3_needsOf 2 RX3 1 := X
  refine rb_aload_n X (pc := 0) dX3_needsOf_0 rfl rfl ?_
  refine rc_getR X (pc := 1) fX3_28 (rb_obT ht) rfl dX3_needsOf_1 ?_
  refine rb_iload_n X (pc := 4) dX3_needsOf_4 rfl rfl ?_
  refine rc_iald X (pc := 5) _ (rb_arT5 ht) rb_tj5 rfl (by omega) dX3_needsOf_5 ?_
  refine rb_aload_n X (pc := 6) dX3_needsOf_6 rfl rfl ?_
  refine rc_getR X (pc := 7) fX3_34 (rb_obT ht) rfl dX3_needsOf_7 ?_
  refine rb_iload_n X (pc := 10) dX3_needsOf_10 rfl rfl ?_
  refine rc_iald X (pc := 11) _ (rb_arT7 ht) rb_tj7 rfl (by omega) dX3_needsOf_11 ?_
  refine rc_callSi X (pc := 12) cvX0_needs mX3_65 (qX0_needs _ _) (by decide) rfl rfl (by decide) dX3_needsOf_12 ?_
  refine rb_iret (S := []) X (pc := 15) Y dX3_needsOf_15 ?_
  exact ⟨rfl, rfl⟩
set_option maxRecDepth 100000 in
set_option maxHeartbeats 4000000 in
theorem qX3_growsOf {G : rb_G} {h : rb_H} {t : Nat} {T : rb_T} (ht : t < 3) {r : Nat} (hr : r < 10) : rb_M G 1 yX3_growsOf cX3_growsOf 2 (some .int) [.ref (rb_ad G t 0), .int (nI r)] (tw h t T) (rb_F (some (.int (sp_grows (T 5 r) (T 7 r) (T 8 r)))) (tw h t T)) := by
  refine rb_meth (L := [.ref (rb_ad G t 0), .int (nI r)]) (by decide) (Nat.le_of_ble_eq_true rfl) rfl (fun Z X Y => ?_)
  have X : rb_CX Z G cX3_growsOf 2 RX3 1 := X
  refine rb_aload_n X (pc := 0) dX3_growsOf_0 rfl rfl ?_
  refine rc_getR X (pc := 1) fX3_28 (rb_obT ht) rfl dX3_growsOf_1 ?_
  refine rb_iload_n X (pc := 4) dX3_growsOf_4 rfl rfl ?_
  refine rc_iald X (pc := 5) _ (rb_arT5 ht) rb_tj5 rfl (by omega) dX3_growsOf_5 ?_
  refine rb_aload_n X (pc := 6) dX3_growsOf_6 rfl rfl ?_
  refine rc_getR X (pc := 7) fX3_34 (rb_obT ht) rfl dX3_growsOf_7 ?_
  refine rb_iload_n X (pc := 10) dX3_growsOf_10 rfl rfl ?_
  refine rc_iald X (pc := 11) _ (rb_arT7 ht) rb_tj7 rfl (by omega) dX3_growsOf_11 ?_
  refine rb_aload_n X (pc := 12) dX3_growsOf_12 rfl rfl ?_
  refine rc_getR X (pc := 13) fX3_37 (rb_obT ht) rfl dX3_growsOf_13 ?_
  refine rb_iload_n X (pc := 16) dX3_growsOf_16 rfl rfl ?_
  refine rc_iald X (pc := 17) _ (rb_arT8 ht) rb_tj8 rfl (by omega) dX3_growsOf_17 ?_
  refine rc_callSi X (pc := 18) cvX0_grows mX3_69 (qX0_grows _ _ _) (by decide) rfl rfl (by decide) dX3_growsOf_18 ?_
  refine rb_iret (S := []) X (pc := 21) Y dX3_growsOf_21 ?_
  exact ⟨rfl, rfl⟩
abbrev sp_tr (T : rb_T) (e : Int32) : Prop := ¬ (T 11 0 &&& ((1 : Int32) <<< (e &&& 31)) = 0)
set_option maxRecDepth 100000 in
set_option maxHeartbeats 4000000 in
theorem qX3_isTrue {G : rb_G} {h : rb_H} {t : Nat} {T : rb_T} (ht : t < 3) (e : Int32) : rb_M G 0 yX3_isTrue cX3_isTrue 2 (some .boolean) [.ref (rb_ad G t 0), .int e] (tw h t T) (rb_F (some (.int (if sp_tr T e then 1 else 0))) (tw h t T)) := by
  refine rb_meth (L := [.ref (rb_ad G t 0), .int e]) (by decide) (Nat.le_of_ble_eq_true rfl) rfl (fun Z X Y => ?_)
  have X : rb_CX Z G cX3_isTrue 2 RX3 0 := X
  refine rb_aload_n X (pc := 0) dX3_isTrue_0 rfl rfl ?_
  refine rc_getI X (pc := 1) fX3_46 (rb_obT ht) rfl rb_tf11 dX3_isTrue_1 ?_
  refine rb_iconst (v := 1) X (pc := 4) dX3_isTrue_4 (by decide) ?_
  refine rb_iload_n X (pc := 5) dX3_isTrue_5 rfl rfl ?_
  refine rb_ishl X (pc := 6) dX3_isTrue_6 ?_
  refine rb_iand X (pc := 7) dX3_isTrue_7 ?_
  refine rb_if_eq X (pc := 8) (tgt := 15) dX3_isTrue_8 (by decide) (fun c8 => ?_) (fun c8 => ?_)
  · refine rb_iconst (v := 0) X (pc := 15) dX3_isTrue_15 (by decide) ?_
    refine rb_zret (S := []) X (pc := 16) Y dX3_isTrue_16 rfl ?_
    exact ⟨by simp_all [sp_tr], rfl⟩
  · refine rb_iconst (v := 1) X (pc := 11) dX3_isTrue_11 (by decide) ?_
    refine rb_goto X (pc := 12) (tgt := 16) dX3_isTrue_12 (by decide) ?_
    refine rb_zret (S := []) X (pc := 16) Y dX3_isTrue_16 rfl ?_
    exact ⟨by simp_all [sp_tr], rfl⟩
abbrev sp_free (T : rb_T) (q : Nat) : Prop := sp_cn T q < T 0 q
abbrev sp_tk (T : rb_T) (q : Nat) (nd : Int32) : Prop := sp_free T q ∧ nd ≤ T 2 q
set_option maxRecDepth 100000 in
set_option maxHeartbeats 4000000 in
theorem qX3_hasBedFree {G : rb_G} {h : rb_H} {t : Nat} {T : rb_T} (ht : t < 3) {q : Nat} (hq : q < 8) : rb_M G 0 yX3_hasBedFree cX3_hasBedFree 2 (some .boolean) [.ref (rb_ad G t 0), .int (nI q)] (tw h t T) (rb_F (some (.int (if sp_free T q then 1 else 0))) (tw h t T)) := by
  refine rb_meth (L := [.ref (rb_ad G t 0), .int (nI q)]) (by decide) (Nat.le_of_ble_eq_true rfl) rfl (fun Z X Y => ?_)
  have X : rb_CX Z G cX3_hasBedFree 2 RX3 0 := X
  refine rb_aload_n X (pc := 0) dX3_hasBedFree_0 rfl rfl ?_
  refine rc_getR X (pc := 1) fX3_21 (rb_obT ht) rfl dX3_hasBedFree_1 ?_
  refine rb_iload_n X (pc := 4) dX3_hasBedFree_4 rfl rfl ?_
  refine rc_iald X (pc := 5) _ (rb_arT3 ht) rb_tj3 rfl (by omega) dX3_hasBedFree_5 ?_
  refine rb_aload_n X (pc := 6) dX3_hasBedFree_6 rfl rfl ?_
  refine rc_getR X (pc := 7) fX3_9 (rb_obT ht) rfl dX3_hasBedFree_7 ?_
  refine rb_iload_n X (pc := 10) dX3_hasBedFree_10 rfl rfl ?_
  refine rc_iald X (pc := 11) _ (rb_arT0 ht) rb_tj0 rfl (by omega) dX3_hasBedFree_11 ?_
  refine rb_icmp_ge X (pc := 12) (tgt := 19) dX3_hasBedFree_12 (by decide) (fun c12 => ?_) (fun c12 => ?_)
  · refine rb_iconst (v := 0) X (pc := 19) dX3_hasBedFree_19 (by decide) ?_
    refine rb_zret (S := []) X (pc := 20) Y dX3_hasBedFree_20 rfl ?_
    exact ⟨by simp_all [sp_free], rfl⟩
  · refine rb_iconst (v := 1) X (pc := 15) dX3_hasBedFree_15 (by decide) ?_
    refine rb_goto X (pc := 16) (tgt := 20) dX3_hasBedFree_16 (by decide) ?_
    refine rb_zret (S := []) X (pc := 20) Y dX3_hasBedFree_20 rfl ?_
    exact ⟨by simp_all [sp_free], rfl⟩
set_option maxRecDepth 100000 in
set_option maxHeartbeats 4000000 in
theorem qX3_wouldTake {G : rb_G} {h : rb_H} {t : Nat} {T : rb_T} (ht : t < 3) {q : Nat} (hq : q < 8) (nd : Int32) : rb_M G 1 yX3_wouldTake cX3_wouldTake 3 (some .boolean) [.ref (rb_ad G t 0), .int (nI q), .int nd] (tw h t T) (rb_F (some (.int (if sp_tk T q nd then 1 else 0))) (tw h t T)) := by
  refine rb_meth (L := [.ref (rb_ad G t 0), .int (nI q), .int nd]) (by decide) (Nat.le_of_ble_eq_true rfl) rfl (fun Z X Y => ?_)
  have X : rb_CX Z G cX3_wouldTake 3 RX3 1 := X
  refine rb_aload_n X (pc := 0) dX3_wouldTake_0 rfl rfl ?_
  refine rb_iload_n X (pc := 1) dX3_wouldTake_1 rfl rfl ?_
  refine rc_callVi X (pc := 2) cvX3_hasBedFree mX3_72 (rb_obT ht) (qX3_hasBedFree ht (by omega)) (by decide) rfl rfl (by decide) dX3_wouldTake_2 ?_
  refine rb_if_eq X (pc := 5) (tgt := 22) dX3_wouldTake_5 (by decide) (fun c5 => ?_) (fun c5 => ?_)
  · (try simp only [sp_b0, Classical.not_not] at c5)
    refine rb_iconst (v := 0) X (pc := 22) dX3_wouldTake_22 (by decide) ?_
    refine rb_zret (S := []) X (pc := 23) Y dX3_wouldTake_23 rfl ?_
    exact ⟨by simp [sp_tk, *], rfl⟩
  · (try simp only [sp_b0, Classical.not_not] at c5)
    refine rb_aload_n X (pc := 8) dX3_wouldTake_8 rfl rfl ?_
    refine rc_getR X (pc := 9) fX3_18 (rb_obT ht) rfl dX3_wouldTake_9 ?_
    refine rb_iload_n X (pc := 12) dX3_wouldTake_12 rfl rfl ?_
    refine rc_iald X (pc := 13) _ (rb_arT2 ht) rb_tj2 rfl (by omega) dX3_wouldTake_13 ?_
    refine rb_iload_n X (pc := 14) dX3_wouldTake_14 rfl rfl ?_
    refine rb_icmp_lt X (pc := 15) (tgt := 22) dX3_wouldTake_15 (by decide) (fun c15 => ?_) (fun c15 => ?_)
    · refine rb_iconst (v := 0) X (pc := 22) dX3_wouldTake_22 (by decide) ?_
      refine rb_zret (S := []) X (pc := 23) Y dX3_wouldTake_23 rfl ?_
      exact ⟨by simp [sp_tk, *], rfl⟩
    · refine rb_iconst (v := 1) X (pc := 18) dX3_wouldTake_18 (by decide) ?_
      refine rb_goto X (pc := 19) (tgt := 23) dX3_wouldTake_19 (by decide) ?_
      refine rb_zret (S := []) X (pc := 23) Y dX3_wouldTake_23 rfl ?_
      exact ⟨by simp [sp_tk, *], rfl⟩
end
