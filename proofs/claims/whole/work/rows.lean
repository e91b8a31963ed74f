section
/-- a private method of a class that the tables say can be made, by its rows of tables_1 -/
def lw_okq (q : MethodName × Nat) : Prop := (q.1.cls ≠ "java/lang/invoke/MethodHandle" ∧ q.1.cls ≠ "java/lang/invoke/VarHandle") ∧ Cond.instantiable q.1.cls q.2 ∈ tables_1 ∧ Cond.privateMethod q.1 ∈ tables_1 ∧ Cond.instanceMethod q.1 ∈ tables_1
theorem lw_p0 : lw_okq (⟨"RumourBeds", "finding", "(I)I"⟩, 7) := ⟨⟨by decide +kernel, by decide +kernel⟩, List.mem_of_getElem? (i := 14) (by decide +kernel), List.mem_of_getElem? (i := 165) (by decide +kernel), List.mem_of_getElem? (i := 166) (by decide +kernel)⟩
theorem lw_p1 : lw_okq (⟨"RumourBeds", "isRumour", "(I)Z"⟩, 7) := ⟨⟨by decide +kernel, by decide +kernel⟩, List.mem_of_getElem? (i := 14) (by decide +kernel), List.mem_of_getElem? (i := 219) (by decide +kernel), List.mem_of_getElem? (i := 220) (by decide +kernel)⟩
theorem lw_p2 : lw_okq (⟨"RumourBeds$Town", "feedOne", "(I)V"⟩, 12) := ⟨⟨by decide +kernel, by decide +kernel⟩, List.mem_of_getElem? (i := 22) (by decide +kernel), List.mem_of_getElem? (i := 327) (by decide +kernel), List.mem_of_getElem? (i := 328) (by decide +kernel)⟩
theorem lw_p3 : lw_okq (⟨"RumourBeds$Town", "makeThird", "(I)V"⟩, 12) := ⟨⟨by decide +kernel, by decide +kernel⟩, List.mem_of_getElem? (i := 22) (by decide +kernel), List.mem_of_getElem? (i := 332) (by decide +kernel), List.mem_of_getElem? (i := 333) (by decide +kernel)⟩
theorem lw_p4 : lw_okq (⟨"RumourBeds$Town", "pairedEvent", "(I)I"⟩, 12) := ⟨⟨by decide +kernel, by decide +kernel⟩, List.mem_of_getElem? (i := 22) (by decide +kernel), List.mem_of_getElem? (i := 336) (by decide +kernel), List.mem_of_getElem? (i := 337) (by decide +kernel)⟩
theorem lw_p5 : lw_okq (⟨"RumourBeds$Town", "isOnRoad", "(I)Z"⟩, 12) := ⟨⟨by decide +kernel, by decide +kernel⟩, List.mem_of_getElem? (i := 22) (by decide +kernel), List.mem_of_getElem? (i := 340) (by decide +kernel), List.mem_of_getElem? (i := 341) (by decide +kernel)⟩
theorem lw_p6 : lw_okq (⟨"RumourBeds$Tape", "nextToken", "()V"⟩, 6) := ⟨⟨by decide +kernel, by decide +kernel⟩, List.mem_of_getElem? (i := 82) (by decide +kernel), List.mem_of_getElem? (i := 450) (by decide +kernel), List.mem_of_getElem? (i := 451) (by decide +kernel)⟩
theorem lw_p7 : lw_okq (⟨"RumourBeds$Tape", "tellItem", "(LRumourBeds$Town;)Z"⟩, 6) := ⟨⟨by decide +kernel, by decide +kernel⟩, List.mem_of_getElem? (i := 82) (by decide +kernel), List.mem_of_getElem? (i := 458) (by decide +kernel), List.mem_of_getElem? (i := 459) (by decide +kernel)⟩
theorem lw_p8 : lw_okq (⟨"RumourBeds$Tape", "isWord", "(Ljava/lang/String;)Z"⟩, 6) := ⟨⟨by decide +kernel, by decide +kernel⟩, List.mem_of_getElem? (i := 82) (by decide +kernel), List.mem_of_getElem? (i := 463) (by decide +kernel), List.mem_of_getElem? (i := 464) (by decide +kernel)⟩
theorem lw_p9 : lw_okq (⟨"RumourBeds$Tape", "tellHouse", "(LRumourBeds$Town;)Z"⟩, 6) := ⟨⟨by decide +kernel, by decide +kernel⟩, List.mem_of_getElem? (i := 82) (by decide +kernel), List.mem_of_getElem? (i := 515) (by decide +kernel), List.mem_of_getElem? (i := 516) (by decide +kernel)⟩
theorem lw_p10 : lw_okq (⟨"RumourBeds$Tape", "passNumber", "(I)I"⟩, 6) := ⟨⟨by decide +kernel, by decide +kernel⟩, List.mem_of_getElem? (i := 82) (by decide +kernel), List.mem_of_getElem? (i := 519) (by decide +kernel), List.mem_of_getElem? (i := 520) (by decide +kernel)⟩
theorem lw_p11 : lw_okq (⟨"RumourBeds$Tape", "isNumber", "(I)Z"⟩, 6) := ⟨⟨by decide +kernel, by decide +kernel⟩, List.mem_of_getElem? (i := 82) (by decide +kernel), List.mem_of_getElem? (i := 523) (by decide +kernel), List.mem_of_getElem? (i := 524) (by decide +kernel)⟩
theorem lw_p12 : lw_okq (⟨"RumourBeds$Tape", "tellPart", "(Ljava/lang/String;I[II)Z"⟩, 6) := ⟨⟨by decide +kernel, by decide +kernel⟩, List.mem_of_getElem? (i := 82) (by decide +kernel), List.mem_of_getElem? (i := 528) (by decide +kernel), List.mem_of_getElem? (i := 529) (by decide +kernel)⟩
theorem lw_p13 : lw_okq (⟨"RumourBeds$Tape", "tellTrue", "(LRumourBeds$Town;)Z"⟩, 6) := ⟨⟨by decide +kernel, by decide +kernel⟩, List.mem_of_getElem? (i := 82) (by decide +kernel), List.mem_of_getElem? (i := 535) (by decide +kernel), List.mem_of_getElem? (i := 536) (by decide +kernel)⟩
theorem lw_p14 : lw_okq (⟨"RumourBeds$Tape", "tellRumour", "(LRumourBeds$Town;I)Z"⟩, 6) := ⟨⟨by decide +kernel, by decide +kernel⟩, List.mem_of_getElem? (i := 82) (by decide +kernel), List.mem_of_getElem? (i := 549) (by decide +kernel), List.mem_of_getElem? (i := 550) (by decide +kernel)⟩
theorem lw_p15 : lw_okq (⟨"RumourBeds$Tape", "tellLodging", "(LRumourBeds$Town;I)Z"⟩, 6) := ⟨⟨by decide +kernel, by decide +kernel⟩, List.mem_of_getElem? (i := 82) (by decide +kernel), List.mem_of_getElem? (i := 557) (by decide +kernel), List.mem_of_getElem? (i := 558) (by decide +kernel)⟩
def lw_privs_1 : List (MethodName × Nat) := [(⟨"RumourBeds", "finding", "(I)I"⟩, 7), (⟨"RumourBeds", "isRumour", "(I)Z"⟩, 7), (⟨"RumourBeds$Town", "feedOne", "(I)V"⟩, 12), (⟨"RumourBeds$Town", "makeThird", "(I)V"⟩, 12), (⟨"RumourBeds$Town", "pairedEvent", "(I)I"⟩, 12), (⟨"RumourBeds$Town", "isOnRoad", "(I)Z"⟩, 12), (⟨"RumourBeds$Tape", "nextToken", "()V"⟩, 6), (⟨"RumourBeds$Tape", "tellItem", "(LRumourBeds$Town;)Z"⟩, 6), (⟨"RumourBeds$Tape", "isWord", "(Ljava/lang/String;)Z"⟩, 6), (⟨"RumourBeds$Tape", "tellHouse", "(LRumourBeds$Town;)Z"⟩, 6), (⟨"RumourBeds$Tape", "passNumber", "(I)I"⟩, 6), (⟨"RumourBeds$Tape", "isNumber", "(I)Z"⟩, 6), (⟨"RumourBeds$Tape", "tellPart", "(Ljava/lang/String;I[II)Z"⟩, 6), (⟨"RumourBeds$Tape", "tellTrue", "(LRumourBeds$Town;)Z"⟩, 6), (⟨"RumourBeds$Tape", "tellRumour", "(LRumourBeds$Town;I)Z"⟩, 6), (⟨"RumourBeds$Tape", "tellLodging", "(LRumourBeds$Town;I)Z"⟩, 6)]
theorem lw_r1 : ∀ q ∈ lw_privs_1, lw_okq q := List.forall_mem_cons.mpr ⟨lw_p0, List.forall_mem_cons.mpr ⟨lw_p1, List.forall_mem_cons.mpr ⟨lw_p2, List.forall_mem_cons.mpr ⟨lw_p3, List.forall_mem_cons.mpr ⟨lw_p4, List.forall_mem_cons.mpr ⟨lw_p5, List.forall_mem_cons.mpr ⟨lw_p6, List.forall_mem_cons.mpr ⟨lw_p7, List.forall_mem_cons.mpr ⟨lw_p8, List.forall_mem_cons.mpr ⟨lw_p9, List.forall_mem_cons.mpr ⟨lw_p10, List.forall_mem_cons.mpr ⟨lw_p11, List.forall_mem_cons.mpr ⟨lw_p12, List.forall_mem_cons.mpr ⟨lw_p13, List.forall_mem_cons.mpr ⟨lw_p14, List.forall_mem_cons.mpr ⟨lw_p15, fun _ h => absurd h List.not_mem_nil⟩⟩⟩⟩⟩⟩⟩⟩⟩⟩⟩⟩⟩⟩⟩⟩
theorem lw_p16 : lw_okq (⟨"RumourBeds", "findingOfBook", "(II)I"⟩, 7) := ⟨⟨by decide +kernel, by decide +kernel⟩, List.mem_of_getElem? (i := 14) (by decide +kernel), List.mem_of_getElem? (i := 608) (by decide +kernel), List.mem_of_getElem? (i := 609) (by decide +kernel)⟩
theorem lw_p17 : lw_okq (⟨"RumourBeds", "isBookOf", "(LRumourBeds$Sheet;I)Z"⟩, 7) := ⟨⟨by decide +kernel, by decide +kernel⟩, List.mem_of_getElem? (i := 14) (by decide +kernel), List.mem_of_getElem? (i := 616) (by decide +kernel), List.mem_of_getElem? (i := 617) (by decide +kernel)⟩
theorem lw_p18 : lw_okq (⟨"RumourBedsModel", "becomes", "(II)I"⟩, 16) := ⟨⟨by decide +kernel, by decide +kernel⟩, List.mem_of_getElem? (i := 640) (by decide +kernel), List.mem_of_getElem? (i := 713) (by decide +kernel), List.mem_of_getElem? (i := 714) (by decide +kernel)⟩
theorem lw_p19 : lw_okq (⟨"RumourBedsModel", "finds", "(I)I"⟩, 16) := ⟨⟨by decide +kernel, by decide +kernel⟩, List.mem_of_getElem? (i := 640) (by decide +kernel), List.mem_of_getElem? (i := 718) (by decide +kernel), List.mem_of_getElem? (i := 719) (by decide +kernel)⟩
theorem lw_p20 : lw_okq (⟨"RumourBedsModel", "has", "(II)I"⟩, 16) := ⟨⟨by decide +kernel, by decide +kernel⟩, List.mem_of_getElem? (i := 640) (by decide +kernel), List.mem_of_getElem? (i := 727) (by decide +kernel), List.mem_of_getElem? (i := 728) (by decide +kernel)⟩
theorem lw_p21 : lw_okq (⟨"RumourBedsModel", "thoseAt", "(I)I"⟩, 16) := ⟨⟨by decide +kernel, by decide +kernel⟩, List.mem_of_getElem? (i := 640) (by decide +kernel), List.mem_of_getElem? (i := 731) (by decide +kernel), List.mem_of_getElem? (i := 732) (by decide +kernel)⟩
theorem lw_p22 : lw_okq (⟨"RumourBedsModel", "its", "(II)I"⟩, 16) := ⟨⟨by decide +kernel, by decide +kernel⟩, List.mem_of_getElem? (i := 640) (by decide +kernel), List.mem_of_getElem? (i := 735) (by decide +kernel), List.mem_of_getElem? (i := 736) (by decide +kernel)⟩
theorem lw_p23 : lw_okq (⟨"RumourBedsModel", "eventsAt", "(I)I"⟩, 16) := ⟨⟨by decide +kernel, by decide +kernel⟩, List.mem_of_getElem? (i := 640) (by decide +kernel), List.mem_of_getElem? (i := 742) (by decide +kernel), List.mem_of_getElem? (i := 743) (by decide +kernel)⟩
theorem lw_p24 : lw_okq (⟨"RumourBedsModel", "eatenAt", "(I)I"⟩, 16) := ⟨⟨by decide +kernel, by decide +kernel⟩, List.mem_of_getElem? (i := 640) (by decide +kernel), List.mem_of_getElem? (i := 746) (by decide +kernel), List.mem_of_getElem? (i := 747) (by decide +kernel)⟩
theorem lw_p25 : lw_okq (⟨"RumourBedsModel", "eats", "(I)I"⟩, 16) := ⟨⟨by decide +kernel, by decide +kernel⟩, List.mem_of_getElem? (i := 640) (by decide +kernel), List.mem_of_getElem? (i := 750) (by decide +kernel), List.mem_of_getElem? (i := 751) (by decide +kernel)⟩
theorem lw_p26 : lw_okq (⟨"RumourBedsModel", "adds", "(II)I"⟩, 16) := ⟨⟨by decide +kernel, by decide +kernel⟩, List.mem_of_getElem? (i := 640) (by decide +kernel), List.mem_of_getElem? (i := 766) (by decide +kernel), List.mem_of_getElem? (i := 767) (by decide +kernel)⟩
theorem lw_p27 : lw_okq (⟨"RumourBedsModel", "isRumour", "(I)Z"⟩, 16) := ⟨⟨by decide +kernel, by decide +kernel⟩, List.mem_of_getElem? (i := 640) (by decide +kernel), List.mem_of_getElem? (i := 774) (by decide +kernel), List.mem_of_getElem? (i := 775) (by decide +kernel)⟩
theorem lw_p28 : lw_okq (⟨"RumourBedsModel", "needs", "(I)I"⟩, 16) := ⟨⟨by decide +kernel, by decide +kernel⟩, List.mem_of_getElem? (i := 640) (by decide +kernel), List.mem_of_getElem? (i := 778) (by decide +kernel), List.mem_of_getElem? (i := 779) (by decide +kernel)⟩
theorem lw_p29 : lw_okq (⟨"RumourBedsModel", "grows", "(I)I"⟩, 16) := ⟨⟨by decide +kernel, by decide +kernel⟩, List.mem_of_getElem? (i := 640) (by decide +kernel), List.mem_of_getElem? (i := 782) (by decide +kernel), List.mem_of_getElem? (i := 783) (by decide +kernel)⟩
theorem lw_p30 : lw_okq (⟨"RumourBedsModel", "isTaken", "(II)Z"⟩, 16) := ⟨⟨by decide +kernel, by decide +kernel⟩, List.mem_of_getElem? (i := 640) (by decide +kernel), List.mem_of_getElem? (i := 807) (by decide +kernel), List.mem_of_getElem? (i := 808) (by decide +kernel)⟩
theorem lw_p31 : lw_okq (⟨"RumourBedsModel", "isFree", "(I)Z"⟩, 16) := ⟨⟨by decide +kernel, by decide +kernel⟩, List.mem_of_getElem? (i := 640) (by decide +kernel), List.mem_of_getElem? (i := 811) (by decide +kernel), List.mem_of_getElem? (i := 812) (by decide +kernel)⟩
def lw_privs_2 : List (MethodName × Nat) := [(⟨"RumourBeds", "findingOfBook", "(II)I"⟩, 7), (⟨"RumourBeds", "isBookOf", "(LRumourBeds$Sheet;I)Z"⟩, 7), (⟨"RumourBedsModel", "becomes", "(II)I"⟩, 16), (⟨"RumourBedsModel", "finds", "(I)I"⟩, 16), (⟨"RumourBedsModel", "has", "(II)I"⟩, 16), (⟨"RumourBedsModel", "thoseAt", "(I)I"⟩, 16), (⟨"RumourBedsModel", "its", "(II)I"⟩, 16), (⟨"RumourBedsModel", "eventsAt", "(I)I"⟩, 16), (⟨"RumourBedsModel", "eatenAt", "(I)I"⟩, 16), (⟨"RumourBedsModel", "eats", "(I)I"⟩, 16), (⟨"RumourBedsModel", "adds", "(II)I"⟩, 16), (⟨"RumourBedsModel", "isRumour", "(I)Z"⟩, 16), (⟨"RumourBedsModel", "needs", "(I)I"⟩, 16), (⟨"RumourBedsModel", "grows", "(I)I"⟩, 16), (⟨"RumourBedsModel", "isTaken", "(II)Z"⟩, 16), (⟨"RumourBedsModel", "isFree", "(I)Z"⟩, 16)]
theorem lw_r2 : ∀ q ∈ lw_privs_2, lw_okq q := List.forall_mem_cons.mpr ⟨lw_p16, List.forall_mem_cons.mpr ⟨lw_p17, List.forall_mem_cons.mpr ⟨lw_p18, List.forall_mem_cons.mpr ⟨lw_p19, List.forall_mem_cons.mpr ⟨lw_p20, List.forall_mem_cons.mpr ⟨lw_p21, List.forall_mem_cons.mpr ⟨lw_p22, List.forall_mem_cons.mpr ⟨lw_p23, List.forall_mem_cons.mpr ⟨lw_p24, List.forall_mem_cons.mpr ⟨lw_p25, List.forall_mem_cons.mpr ⟨lw_p26, List.forall_mem_cons.mpr ⟨lw_p27, List.forall_mem_cons.mpr ⟨lw_p28, List.forall_mem_cons.mpr ⟨lw_p29, List.forall_mem_cons.mpr ⟨lw_p30, List.forall_mem_cons.mpr ⟨lw_p31, fun _ h => absurd h List.not_mem_nil⟩⟩⟩⟩⟩⟩⟩⟩⟩⟩⟩⟩⟩⟩⟩⟩
theorem lw_p32 : lw_okq (⟨"RumourBedsModel", "isTrue", "(I)Z"⟩, 16) := ⟨⟨by decide +kernel, by decide +kernel⟩, List.mem_of_getElem? (i := 640) (by decide +kernel), List.mem_of_getElem? (i := 822) (by decide +kernel), List.mem_of_getElem? (i := 823) (by decide +kernel)⟩
theorem lw_p33 : lw_okq (⟨"RumourBedsModel", "hostOf", "(I)I"⟩, 16) := ⟨⟨by decide +kernel, by decide +kernel⟩, List.mem_of_getElem? (i := 640) (by decide +kernel), List.mem_of_getElem? (i := 827) (by decide +kernel), List.mem_of_getElem? (i := 828) (by decide +kernel)⟩
theorem lw_p34 : lw_okq (⟨"RumourBedsModel", "isImproved", "(II)V"⟩, 16) := ⟨⟨by decide +kernel, by decide +kernel⟩, List.mem_of_getElem? (i := 640) (by decide +kernel), List.mem_of_getElem? (i := 836) (by decide +kernel), List.mem_of_getElem? (i := 837) (by decide +kernel)⟩
theorem lw_p35 : lw_okq (⟨"RumourBedsModel", "becomesTrue", "(I)I"⟩, 16) := ⟨⟨by decide +kernel, by decide +kernel⟩, List.mem_of_getElem? (i := 640) (by decide +kernel), List.mem_of_getElem? (i := 847) (by decide +kernel), List.mem_of_getElem? (i := 848) (by decide +kernel)⟩
theorem lw_p36 : lw_okq (⟨"RumourBedsModel", "daysGo", "(I)V"⟩, 16) := ⟨⟨by decide +kernel, by decide +kernel⟩, List.mem_of_getElem? (i := 640) (by decide +kernel), List.mem_of_getElem? (i := 860) (by decide +kernel), List.mem_of_getElem? (i := 861) (by decide +kernel)⟩
theorem lw_p37 : lw_okq (⟨"RumourBedsModel", "day", "()V"⟩, 16) := ⟨⟨by decide +kernel, by decide +kernel⟩, List.mem_of_getElem? (i := 640) (by decide +kernel), List.mem_of_getElem? (i := 864) (by decide +kernel), List.mem_of_getElem? (i := 865) (by decide +kernel)⟩
theorem lw_p38 : lw_okq (⟨"RumourBedsModel", "feeds", "(I)V"⟩, 16) := ⟨⟨by decide +kernel, by decide +kernel⟩, List.mem_of_getElem? (i := 640) (by decide +kernel), List.mem_of_getElem? (i := 868) (by decide +kernel), List.mem_of_getElem? (i := 869) (by decide +kernel)⟩
theorem lw_p39 : lw_okq (⟨"RumourBedsModel", "makesThird", "(I)V"⟩, 16) := ⟨⟨by decide +kernel, by decide +kernel⟩, List.mem_of_getElem? (i := 640) (by decide +kernel), List.mem_of_getElem? (i := 872) (by decide +kernel), List.mem_of_getElem? (i := 873) (by decide +kernel)⟩
theorem lw_p40 : lw_okq (⟨"RumourBedsModel", "lodgersOf", "(II)I"⟩, 16) := ⟨⟨by decide +kernel, by decide +kernel⟩, List.mem_of_getElem? (i := 640) (by decide +kernel), List.mem_of_getElem? (i := 876) (by decide +kernel), List.mem_of_getElem? (i := 877) (by decide +kernel)⟩
theorem lw_p41 : lw_okq (⟨"RumourBedsModel", "isOnRoad", "(I)Z"⟩, 16) := ⟨⟨by decide +kernel, by decide +kernel⟩, List.mem_of_getElem? (i := 640) (by decide +kernel), List.mem_of_getElem? (i := 880) (by decide +kernel), List.mem_of_getElem? (i := 881) (by decide +kernel)⟩
theorem lw_p42 : lw_okq (⟨"RumourBedsModel", "bulks", "()I"⟩, 16) := ⟨⟨by decide +kernel, by decide +kernel⟩, List.mem_of_getElem? (i := 640) (by decide +kernel), List.mem_of_getElem? (i := 888) (by decide +kernel), List.mem_of_getElem? (i := 889) (by decide +kernel)⟩
theorem lw_p43 : lw_okq (⟨"RumourBedsModel", "larders", "()I"⟩, 16) := ⟨⟨by decide +kernel, by decide +kernel⟩, List.mem_of_getElem? (i := 640) (by decide +kernel), List.mem_of_getElem? (i := 892) (by decide +kernel), List.mem_of_getElem? (i := 893) (by decide +kernel)⟩
theorem lw_p44 : lw_okq (⟨"RumourBedsModel", "freeBeds", "()I"⟩, 16) := ⟨⟨by decide +kernel, by decide +kernel⟩, List.mem_of_getElem? (i := 640) (by decide +kernel), List.mem_of_getElem? (i := 896) (by decide +kernel), List.mem_of_getElem? (i := 897) (by decide +kernel)⟩
theorem lw_p45 : lw_okq (⟨"RumourBedsModel", "eaten", "()I"⟩, 16) := ⟨⟨by decide +kernel, by decide +kernel⟩, List.mem_of_getElem? (i := 640) (by decide +kernel), List.mem_of_getElem? (i := 900) (by decide +kernel), List.mem_of_getElem? (i := 901) (by decide +kernel)⟩
theorem lw_p46 : lw_okq (⟨"RumourBedsModel", "behind", "(II)I"⟩, 16) := ⟨⟨by decide +kernel, by decide +kernel⟩, List.mem_of_getElem? (i := 640) (by decide +kernel), List.mem_of_getElem? (i := 911) (by decide +kernel), List.mem_of_getElem? (i := 912) (by decide +kernel)⟩
theorem lw_p47 : lw_okq (⟨"RumourBedsModel", "laysAside", "()V"⟩, 16) := ⟨⟨by decide +kernel, by decide +kernel⟩, List.mem_of_getElem? (i := 640) (by decide +kernel), List.mem_of_getElem? (i := 915) (by decide +kernel), List.mem_of_getElem? (i := 916) (by decide +kernel)⟩
def lw_privs_3 : List (MethodName × Nat) := [(⟨"RumourBedsModel", "isTrue", "(I)Z"⟩, 16), (⟨"RumourBedsModel", "hostOf", "(I)I"⟩, 16), (⟨"RumourBedsModel", "isImproved", "(II)V"⟩, 16), (⟨"RumourBedsModel", "becomesTrue", "(I)I"⟩, 16), (⟨"RumourBedsModel", "daysGo", "(I)V"⟩, 16), (⟨"RumourBedsModel", "day", "()V"⟩, 16), (⟨"RumourBedsModel", "feeds", "(I)V"⟩, 16), (⟨"RumourBedsModel", "makesThird", "(I)V"⟩, 16), (⟨"RumourBedsModel", "lodgersOf", "(II)I"⟩, 16), (⟨"RumourBedsModel", "isOnRoad", "(I)Z"⟩, 16), (⟨"RumourBedsModel", "bulks", "()I"⟩, 16), (⟨"RumourBedsModel", "larders", "()I"⟩, 16), (⟨"RumourBedsModel", "freeBeds", "()I"⟩, 16), (⟨"RumourBedsModel", "eaten", "()I"⟩, 16), (⟨"RumourBedsModel", "behind", "(II)I"⟩, 16), (⟨"RumourBedsModel", "laysAside", "()V"⟩, 16)]
theorem lw_r3 : ∀ q ∈ lw_privs_3, lw_okq q := List.forall_mem_cons.mpr ⟨lw_p32, List.forall_mem_cons.mpr ⟨lw_p33, List.forall_mem_cons.mpr ⟨lw_p34, List.forall_mem_cons.mpr ⟨lw_p35, List.forall_mem_cons.mpr ⟨lw_p36, List.forall_mem_cons.mpr ⟨lw_p37, List.forall_mem_cons.mpr ⟨lw_p38, List.forall_mem_cons.mpr ⟨lw_p39, List.forall_mem_cons.mpr ⟨lw_p40, List.forall_mem_cons.mpr ⟨lw_p41, List.forall_mem_cons.mpr ⟨lw_p42, List.forall_mem_cons.mpr ⟨lw_p43, List.forall_mem_cons.mpr ⟨lw_p44, List.forall_mem_cons.mpr ⟨lw_p45, List.forall_mem_cons.mpr ⟨lw_p46, List.forall_mem_cons.mpr ⟨lw_p47, fun _ h => absurd h List.not_mem_nil⟩⟩⟩⟩⟩⟩⟩⟩⟩⟩⟩⟩⟩⟩⟩⟩
theorem lw_p48 : lw_okq (⟨"RumourBedsModel", "takesBack", "(I)I"⟩, 16) := ⟨⟨by decide +kernel, by decide +kernel⟩, List.mem_of_getElem? (i := 640) (by decide +kernel), List.mem_of_getElem? (i := 919) (by decide +kernel), List.mem_of_getElem? (i := 920) (by decide +kernel)⟩
theorem lw_p49 : lw_okq (⟨"RumourBedsModel", "firstAs", "(II)I"⟩, 16) := ⟨⟨by decide +kernel, by decide +kernel⟩, List.mem_of_getElem? (i := 640) (by decide +kernel), List.mem_of_getElem? (i := 931) (by decide +kernel), List.mem_of_getElem? (i := 932) (by decide +kernel)⟩
theorem lw_p50 : lw_okq (⟨"RumourBedsModel", "wrongLodger", "(I)I"⟩, 16) := ⟨⟨by decide +kernel, by decide +kernel⟩, List.mem_of_getElem? (i := 640) (by decide +kernel), List.mem_of_getElem? (i := 948) (by decide +kernel), List.mem_of_getElem? (i := 949) (by decide +kernel)⟩
theorem lw_p51 : lw_okq (⟨"RumourBedsModel", "saves", "()V"⟩, 16) := ⟨⟨by decide +kernel, by decide +kernel⟩, List.mem_of_getElem? (i := 640) (by decide +kernel), List.mem_of_getElem? (i := 996) (by decide +kernel), List.mem_of_getElem? (i := 997) (by decide +kernel)⟩
theorem lw_p52 : lw_okq (⟨"RumourBedsModel", "token", "()V"⟩, 16) := ⟨⟨by decide +kernel, by decide +kernel⟩, List.mem_of_getElem? (i := 640) (by decide +kernel), List.mem_of_getElem? (i := 1000) (by decide +kernel), List.mem_of_getElem? (i := 1001) (by decide +kernel)⟩
theorem lw_p53 : lw_okq (⟨"RumourBedsModel", "byteAt", "(I)I"⟩, 16) := ⟨⟨by decide +kernel, by decide +kernel⟩, List.mem_of_getElem? (i := 640) (by decide +kernel), List.mem_of_getElem? (i := 1004) (by decide +kernel), List.mem_of_getElem? (i := 1005) (by decide +kernel)⟩
theorem lw_p54 : lw_okq (⟨"RumourBedsModel", "item", "()V"⟩, 16) := ⟨⟨by decide +kernel, by decide +kernel⟩, List.mem_of_getElem? (i := 640) (by decide +kernel), List.mem_of_getElem? (i := 1018) (by decide +kernel), List.mem_of_getElem? (i := 1019) (by decide +kernel)⟩
theorem lw_p55 : lw_okq (⟨"RumourBedsModel", "kindHere", "()I"⟩, 16) := ⟨⟨by decide +kernel, by decide +kernel⟩, List.mem_of_getElem? (i := 640) (by decide +kernel), List.mem_of_getElem? (i := 1022) (by decide +kernel), List.mem_of_getElem? (i := 1023) (by decide +kernel)⟩
theorem lw_p56 : lw_okq (⟨"RumourBedsModel", "word", "()J"⟩, 16) := ⟨⟨by decide +kernel, by decide +kernel⟩, List.mem_of_getElem? (i := 640) (by decide +kernel), List.mem_of_getElem? (i := 1026) (by decide +kernel), List.mem_of_getElem? (i := 1027) (by decide +kernel)⟩
theorem lw_p57 : lw_okq (⟨"RumourBedsModel", "rumourItem", "(I)V"⟩, 16) := ⟨⟨by decide +kernel, by decide +kernel⟩, List.mem_of_getElem? (i := 640) (by decide +kernel), List.mem_of_getElem? (i := 1038) (by decide +kernel), List.mem_of_getElem? (i := 1039) (by decide +kernel)⟩
theorem lw_p58 : lw_okq (⟨"RumourBedsModel", "must", "(Z)V"⟩, 16) := ⟨⟨by decide +kernel, by decide +kernel⟩, List.mem_of_getElem? (i := 640) (by decide +kernel), List.mem_of_getElem? (i := 1042) (by decide +kernel), List.mem_of_getElem? (i := 1043) (by decide +kernel)⟩
theorem lw_p59 : lw_okq (⟨"RumourBedsModel", "number", "(II)V"⟩, 16) := ⟨⟨by decide +kernel, by decide +kernel⟩, List.mem_of_getElem? (i := 640) (by decide +kernel), List.mem_of_getElem? (i := 1047) (by decide +kernel), List.mem_of_getElem? (i := 1048) (by decide +kernel)⟩
theorem lw_p60 : lw_okq (⟨"RumourBedsModel", "partItem", "(JII)V"⟩, 16) := ⟨⟨by decide +kernel, by decide +kernel⟩, List.mem_of_getElem? (i := 640) (by decide +kernel), List.mem_of_getElem? (i := 1052) (by decide +kernel), List.mem_of_getElem? (i := 1053) (by decide +kernel)⟩
theorem lw_p61 : lw_okq (⟨"RumourBedsModel", "peeked", "()I"⟩, 16) := ⟨⟨by decide +kernel, by decide +kernel⟩, List.mem_of_getElem? (i := 640) (by decide +kernel), List.mem_of_getElem? (i := 1057) (by decide +kernel), List.mem_of_getElem? (i := 1058) (by decide +kernel)⟩
theorem lw_p62 : lw_okq (⟨"RumourBedsModel", "houseItem", "()V"⟩, 16) := ⟨⟨by decide +kernel, by decide +kernel⟩, List.mem_of_getElem? (i := 640) (by decide +kernel), List.mem_of_getElem? (i := 1062) (by decide +kernel), List.mem_of_getElem? (i := 1063) (by decide +kernel)⟩
theorem lw_p63 : lw_okq (⟨"RumourBedsModel", "putsBack", "()V"⟩, 16) := ⟨⟨by decide +kernel, by decide +kernel⟩, List.mem_of_getElem? (i := 640) (by decide +kernel), List.mem_of_getElem? (i := 1070) (by decide +kernel), List.mem_of_getElem? (i := 1071) (by decide +kernel)⟩
def lw_privs_4 : List (MethodName × Nat) := [(⟨"RumourBedsModel", "takesBack", "(I)I"⟩, 16), (⟨"RumourBedsModel", "firstAs", "(II)I"⟩, 16), (⟨"RumourBedsModel", "wrongLodger", "(I)I"⟩, 16), (⟨"RumourBedsModel", "saves", "()V"⟩, 16), (⟨"RumourBedsModel", "token", "()V"⟩, 16), (⟨"RumourBedsModel", "byteAt", "(I)I"⟩, 16), (⟨"RumourBedsModel", "item", "()V"⟩, 16), (⟨"RumourBedsModel", "kindHere", "()I"⟩, 16), (⟨"RumourBedsModel", "word", "()J"⟩, 16), (⟨"RumourBedsModel", "rumourItem", "(I)V"⟩, 16), (⟨"RumourBedsModel", "must", "(Z)V"⟩, 16), (⟨"RumourBedsModel", "number", "(II)V"⟩, 16), (⟨"RumourBedsModel", "partItem", "(JII)V"⟩, 16), (⟨"RumourBedsModel", "peeked", "()I"⟩, 16), (⟨"RumourBedsModel", "houseItem", "()V"⟩, 16), (⟨"RumourBedsModel", "putsBack", "()V"⟩, 16)]
theorem lw_r4 : ∀ q ∈ lw_privs_4, lw_okq q := List.forall_mem_cons.mpr ⟨lw_p48, List.forall_mem_cons.mpr ⟨lw_p49, List.forall_mem_cons.mpr ⟨lw_p50, List.forall_mem_cons.mpr ⟨lw_p51, List.forall_mem_cons.mpr ⟨lw_p52, List.forall_mem_cons.mpr ⟨lw_p53, List.forall_mem_cons.mpr ⟨lw_p54, List.forall_mem_cons.mpr ⟨lw_p55, List.forall_mem_cons.mpr ⟨lw_p56, List.forall_mem_cons.mpr ⟨lw_p57, List.forall_mem_cons.mpr ⟨lw_p58, List.forall_mem_cons.mpr ⟨lw_p59, List.forall_mem_cons.mpr ⟨lw_p60, List.forall_mem_cons.mpr ⟨lw_p61, List.forall_mem_cons.mpr ⟨lw_p62, List.forall_mem_cons.mpr ⟨lw_p63, fun _ h => absurd h List.not_mem_nil⟩⟩⟩⟩⟩⟩⟩⟩⟩⟩⟩⟩⟩⟩⟩⟩
theorem lw_p64 : lw_okq (⟨"RumourBedsModel", "wrongSheet", "(I)I"⟩, 16) := ⟨⟨by decide +kernel, by decide +kernel⟩, List.mem_of_getElem? (i := 640) (by decide +kernel), List.mem_of_getElem? (i := 1086) (by decide +kernel), List.mem_of_getElem? (i := 1087) (by decide +kernel)⟩
theorem lw_p65 : lw_okq (⟨"RumourBedsModel", "wrongBook", "(II)I"⟩, 16) := ⟨⟨by decide +kernel, by decide +kernel⟩, List.mem_of_getElem? (i := 640) (by decide +kernel), List.mem_of_getElem? (i := 1106) (by decide +kernel), List.mem_of_getElem? (i := 1107) (by decide +kernel)⟩
theorem lw_p66 : lw_okq (⟨"RumourBedsModel", "isBook", "(II)Z"⟩, 16) := ⟨⟨by decide +kernel, by decide +kernel⟩, List.mem_of_getElem? (i := 640) (by decide +kernel), List.mem_of_getElem? (i := 1114) (by decide +kernel), List.mem_of_getElem? (i := 1115) (by decide +kernel)⟩
theorem lw_p67 : lw_okq (⟨"RumourBedsModel", "bedsAll", "()I"⟩, 16) := ⟨⟨by decide +kernel, by decide +kernel⟩, List.mem_of_getElem? (i := 640) (by decide +kernel), List.mem_of_getElem? (i := 1134) (by decide +kernel), List.mem_of_getElem? (i := 1135) (by decide +kernel)⟩
def lw_privs_5 : List (MethodName × Nat) := [(⟨"RumourBedsModel", "wrongSheet", "(I)I"⟩, 16), (⟨"RumourBedsModel", "wrongBook", "(II)I"⟩, 16), (⟨"RumourBedsModel", "isBook", "(II)Z"⟩, 16), (⟨"RumourBedsModel", "bedsAll", "()I"⟩, 16)]
theorem lw_r5 : ∀ q ∈ lw_privs_5, lw_okq q := List.forall_mem_cons.mpr ⟨lw_p64, List.forall_mem_cons.mpr ⟨lw_p65, List.forall_mem_cons.mpr ⟨lw_p66, List.forall_mem_cons.mpr ⟨lw_p67, fun _ h => absurd h List.not_mem_nil⟩⟩⟩⟩
def lw_privs : List (MethodName × Nat) := lw_privs_1 ++ (lw_privs_2 ++ (lw_privs_3 ++ (lw_privs_4 ++ (lw_privs_5))))
def lw_tbl : List Cond := k2_sels lw_privs ++ tables_1
theorem lw_privs_ok : ∀ q ∈ lw_privs, lw_okq q := by
  show ∀ q ∈ lw_privs_1 ++ (lw_privs_2 ++ (lw_privs_3 ++ (lw_privs_4 ++ (lw_privs_5)))), lw_okq q
  exact List.forall_mem_append.mpr ⟨lw_r1, List.forall_mem_append.mpr ⟨lw_r2, List.forall_mem_append.mpr ⟨lw_r3, List.forall_mem_append.mpr ⟨lw_r4, lw_r5⟩⟩⟩⟩
end
section
def RX0 : String := "RumourBeds$Kinds"
def TX0 : u_T := fun k => match k with
  | _ => ("", "", "", false)
def tyX0 : Nat → FieldType := fun k => match k with
  | _ => .int
theorem nmX0 : ∀ a, a < 0 → ∀ b, b < 0 → a ≠ b → (TX0 a).2.1 ≠ (TX0 b).2.1 := by decide +kernel
theorem tyX0_ok : ∀ k, k < 0 → parseFieldDescriptor (TX0 k).2.2.1 = some (tyX0 k) := by decide +kernel
abbrev cX0_isUnder : ByteArray := prog_2_method_2_code
def yX0_isUnder : MethodName := ⟨RX0, "isUnder", "(II)Z"⟩
abbrev cX0_eats : ByteArray := prog_2_method_3_code
def yX0_eats : MethodName := ⟨RX0, "eats", "(III)I"⟩
abbrev cX0_needs : ByteArray := prog_2_method_4_code
def yX0_needs : MethodName := ⟨RX0, "needs", "(II)I"⟩
abbrev cX0_grows : ByteArray := prog_2_method_5_code
def yX0_grows : MethodName := ⟨RX0, "grows", "(III)I"⟩
abbrev cX0_nameOf : ByteArray := prog_2_method_6_code
def yX0_nameOf : MethodName := ⟨RX0, "nameOf", "(I)Ljava/lang/String;"⟩
def RX1 : String := "RumourBeds$Sheet"
def TX1 : u_T := fun k => match k with
  | 0 => ("RumourBeds$Sheet", "bits", "I", false)
  | 1 => ("RumourBeds$Sheet", "length", "I", false)
  | _ => ("RumourBeds$Sheet", "numbers", "[J", true)
def tyX1 : Nat → FieldType := fun k => match k with
  | 0 => .int
  | 1 => .int
  | _ => .array .long
theorem nmX1 : ∀ a, a < 3 → ∀ b, b < 3 → a ≠ b → (TX1 a).2.1 ≠ (TX1 b).2.1 := by decide +kernel
theorem tyX1_ok : ∀ k, k < 3 → parseFieldDescriptor (TX1 k).2.2.1 = some (tyX1 k) := by decide +kernel
abbrev cX1_init : ByteArray := prog_3_method_1_code
def yX1_init : MethodName := ⟨RX1, "<init>", "()V"⟩
abbrev cX1_isMissing : ByteArray := prog_3_method_2_code
def yX1_isMissing : MethodName := ⟨RX1, "isMissing", "()Z"⟩
abbrev cX1_begin : ByteArray := prog_3_method_3_code
def yX1_begin : MethodName := ⟨RX1, "begin", "(II)V"⟩
abbrev cX1_put : ByteArray := prog_3_method_4_code
def yX1_put : MethodName := ⟨RX1, "put", "(IJ)V"⟩
abbrev cX1_hasRange : ByteArray := prog_3_method_5_code
def yX1_hasRange : MethodName := ⟨RX1, "hasRange", "(II)Z"⟩
def RX2 : String := "RumourBeds$Tape"
def TX2 : u_T := fun k => match k with
  | 0 => ("RumourBeds$Tape", "bytes", "[I", true)
  | 1 => ("RumourBeds$Tape", "length", "I", false)
  | 2 => ("RumourBeds$Tape", "sort", "I", false)
  | 3 => ("RumourBeds$Tape", "first", "I", false)
  | 4 => ("RumourBeds$Tape", "behind", "I", false)
  | _ => ("RumourBeds$Tape", "value", "I", false)
def tyX2 : Nat → FieldType := fun k => match k with
  | 0 => .array .int
  | 1 => .int
  | 2 => .int
  | 3 => .int
  | 4 => .int
  | _ => .int
theorem nmX2 : ∀ a, a < 6 → ∀ b, b < 6 → a ≠ b → (TX2 a).2.1 ≠ (TX2 b).2.1 := by decide +kernel
theorem tyX2_ok : ∀ k, k < 6 → parseFieldDescriptor (TX2 k).2.2.1 = some (tyX2 k) := by decide +kernel
abbrev cX2_init : ByteArray := prog_4_method_1_code
def yX2_init : MethodName := ⟨RX2, "<init>", "()V"⟩
abbrev cX2_addByte : ByteArray := prog_4_method_2_code
def yX2_addByte : MethodName := ⟨RX2, "addByte", "(I)V"⟩
abbrev cX2_tellTo : ByteArray := prog_4_method_3_code
def yX2_tellTo : MethodName := ⟨RX2, "tellTo", "(LRumourBeds$Town;)I"⟩
abbrev cX2_tellItem : ByteArray := prog_4_method_4_code
def yX2_tellItem : MethodName := ⟨RX2, "tellItem", "(LRumourBeds$Town;)Z"⟩
abbrev cX2_tellHouse : ByteArray := prog_4_method_5_code
def yX2_tellHouse : MethodName := ⟨RX2, "tellHouse", "(LRumourBeds$Town;)Z"⟩
abbrev cX2_tellTrue : ByteArray := prog_4_method_6_code
def yX2_tellTrue : MethodName := ⟨RX2, "tellTrue", "(LRumourBeds$Town;)Z"⟩
abbrev cX2_tellRumour : ByteArray := prog_4_method_7_code
def yX2_tellRumour : MethodName := ⟨RX2, "tellRumour", "(LRumourBeds$Town;I)Z"⟩
abbrev cX2_tellPart : ByteArray := prog_4_method_8_code
def yX2_tellPart : MethodName := ⟨RX2, "tellPart", "(Ljava/lang/String;I[II)Z"⟩
abbrev cX2_tellLodging : ByteArray := prog_4_method_9_code
def yX2_tellLodging : MethodName := ⟨RX2, "tellLodging", "(LRumourBeds$Town;I)Z"⟩
abbrev cX2_passNumber : ByteArray := prog_4_method_10_code
def yX2_passNumber : MethodName := ⟨RX2, "passNumber", "(I)I"⟩
abbrev cX2_isNumber : ByteArray := prog_4_method_11_code
def yX2_isNumber : MethodName := ⟨RX2, "isNumber", "(I)Z"⟩
abbrev cX2_isWord : ByteArray := prog_4_method_12_code
def yX2_isWord : MethodName := ⟨RX2, "isWord", "(Ljava/lang/String;)Z"⟩
abbrev cX2_nextToken : ByteArray := prog_4_method_13_code
def yX2_nextToken : MethodName := ⟨RX2, "nextToken", "()V"⟩
abbrev cX2_sortOf : ByteArray := prog_4_method_14_code
def yX2_sortOf : MethodName := ⟨RX2, "sortOf", "(I)I"⟩
def RX3 : String := "RumourBeds$Town"
def TX3 : u_T := fun k => match k with
  | 0 => ("RumourBeds$Town", "beds", "[I", true)
  | 1 => ("RumourBeds$Town", "larders", "[I", true)
  | 2 => ("RumourBeds$Town", "leans", "[I", true)
  | 3 => ("RumourBeds$Town", "lodgers", "[I", true)
  | 4 => ("RumourBeds$Town", "rumours", "I", false)
  | 5 => ("RumourBeds$Town", "kinds", "[I", true)
  | 6 => ("RumourBeds$Town", "events", "[I", true)
  | 7 => ("RumourBeds$Town", "bulks", "[I", true)
  | 8 => ("RumourBeds$Town", "ages", "[I", true)
  | 9 => ("RumourBeds$Town", "places", "[I", true)
  | 10 => ("RumourBeds$Town", "day", "I", false)
  | _ => ("RumourBeds$Town", "trueEvents", "I", false)
def tyX3 : Nat → FieldType := fun k => match k with
  | 0 => .array .int
  | 1 => .array .int
  | 2 => .array .int
  | 3 => .array .int
  | 4 => .int
  | 5 => .array .int
  | 6 => .array .int
  | 7 => .array .int
  | 8 => .array .int
  | 9 => .array .int
  | 10 => .int
  | _ => .int
theorem nmX3 : ∀ a, a < 12 → ∀ b, b < 12 → a ≠ b → (TX3 a).2.1 ≠ (TX3 b).2.1 := by decide +kernel
theorem tyX3_ok : ∀ k, k < 12 → parseFieldDescriptor (TX3 k).2.2.1 = some (tyX3 k) := by decide +kernel
abbrev cX3_init : ByteArray := prog_5_method_1_code
def yX3_init : MethodName := ⟨RX3, "<init>", "()V"⟩
abbrev cX3_becomes : ByteArray := prog_5_method_2_code
def yX3_becomes : MethodName := ⟨RX3, "becomes", "(LRumourBeds$Town;)V"⟩
abbrev cX3_isFull : ByteArray := prog_5_method_3_code
def yX3_isFull : MethodName := ⟨RX3, "isFull", "()Z"⟩
abbrev cX3_addOne : ByteArray := prog_5_method_4_code
def yX3_addOne : MethodName := ⟨RX3, "addOne", "(III)I"⟩
abbrev cX3_eatsOf : ByteArray := prog_5_method_5_code
def yX3_eatsOf : MethodName := ⟨RX3, "eatsOf", "(I)I"⟩
abbrev cX3_needsOf : ByteArray := prog_5_method_6_code
def yX3_needsOf : MethodName := ⟨RX3, "needsOf", "(I)I"⟩
abbrev cX3_growsOf : ByteArray := prog_5_method_7_code
def yX3_growsOf : MethodName := ⟨RX3, "growsOf", "(I)I"⟩
abbrev cX3_isTrue : ByteArray := prog_5_method_8_code
def yX3_isTrue : MethodName := ⟨RX3, "isTrue", "(I)Z"⟩
abbrev cX3_hasBedFree : ByteArray := prog_5_method_9_code
def yX3_hasBedFree : MethodName := ⟨RX3, "hasBedFree", "(I)Z"⟩
abbrev cX3_wouldTake : ByteArray := prog_5_method_10_code
def yX3_wouldTake : MethodName := ⟨RX3, "wouldTake", "(II)Z"⟩
abbrev cX3_hostFor : ByteArray := prog_5_method_11_code
def yX3_hostFor : MethodName := ⟨RX3, "hostFor", "(I)I"⟩
abbrev cX3_lodge : ByteArray := prog_5_method_12_code
def yX3_lodge : MethodName := ⟨RX3, "lodge", "(II)V"⟩
abbrev cX3_improveBy : ByteArray := prog_5_method_13_code
def yX3_improveBy : MethodName := ⟨RX3, "improveBy", "(II)V"⟩
abbrev cX3_becomeTrue : ByteArray := prog_5_method_14_code
def yX3_becomeTrue : MethodName := ⟨RX3, "becomeTrue", "(I)I"⟩
abbrev cX3_passDays : ByteArray := prog_5_method_15_code
def yX3_passDays : MethodName := ⟨RX3, "passDays", "(I)V"⟩
abbrev cX3_passDay : ByteArray := prog_5_method_16_code
def yX3_passDay : MethodName := ⟨RX3, "passDay", "()V"⟩
abbrev cX3_feedOne : ByteArray := prog_5_method_17_code
def yX3_feedOne : MethodName := ⟨RX3, "feedOne", "(I)V"⟩
abbrev cX3_makeThird : ByteArray := prog_5_method_18_code
def yX3_makeThird : MethodName := ⟨RX3, "makeThird", "(I)V"⟩
abbrev cX3_pairedEvent : ByteArray := prog_5_method_19_code
def yX3_pairedEvent : MethodName := ⟨RX3, "pairedEvent", "(I)I"⟩
abbrev cX3_isOnRoad : ByteArray := prog_5_method_20_code
def yX3_isOnRoad : MethodName := ⟨RX3, "isOnRoad", "(I)Z"⟩
abbrev cX3_thoseIn : ByteArray := prog_5_method_21_code
def yX3_thoseIn : MethodName := ⟨RX3, "thoseIn", "(I)I"⟩
abbrev cX3_eventsIn : ByteArray := prog_5_method_22_code
def yX3_eventsIn : MethodName := ⟨RX3, "eventsIn", "(I)I"⟩
abbrev cX3_eatenIn : ByteArray := prog_5_method_23_code
def yX3_eatenIn : MethodName := ⟨RX3, "eatenIn", "(I)I"⟩
abbrev cX3_eatenInAll : ByteArray := prog_5_method_24_code
def yX3_eatenInAll : MethodName := ⟨RX3, "eatenInAll", "()I"⟩
abbrev cX3_bulkOfAll : ByteArray := prog_5_method_25_code
def yX3_bulkOfAll : MethodName := ⟨RX3, "bulkOfAll", "()I"⟩
abbrev cX3_freeBeds : ByteArray := prog_5_method_26_code
def yX3_freeBeds : MethodName := ⟨RX3, "freeBeds", "()I"⟩
def RX4 : String := "RumourBeds"
def TX4 : u_T := fun k => match k with
  | 0 => ("RumourBeds", "street", "LRumourBeds$Town;", true)
  | 1 => ("RumourBeds", "ahead", "LRumourBeds$Town;", true)
  | 2 => ("RumourBeds", "kept", "LRumourBeds$Town;", true)
  | 3 => ("RumourBeds", "isKept", "Z", false)
  | 4 => ("RumourBeds", "tape", "LRumourBeds$Tape;", true)
  | 5 => ("RumourBeds", "sheets", "[LRumourBeds$Sheet;", true)
  | _ => ("RumourBeds", "found", "[I", true)
def tyX4 : Nat → FieldType := fun k => match k with
  | 0 => .object "RumourBeds$Town"
  | 1 => .object "RumourBeds$Town"
  | 2 => .object "RumourBeds$Town"
  | 3 => .boolean
  | 4 => .object "RumourBeds$Tape"
  | 5 => .array (.object "RumourBeds$Sheet")
  | _ => .array .int
theorem nmX4 : ∀ a, a < 7 → ∀ b, b < 7 → a ≠ b → (TX4 a).2.1 ≠ (TX4 b).2.1 := by decide +kernel
theorem tyX4_ok : ∀ k, k < 7 → parseFieldDescriptor (TX4 k).2.2.1 = some (tyX4 k) := by decide +kernel
abbrev cX4_init : ByteArray := prog_1_method_1_code
def yX4_init : MethodName := ⟨RX4, "<init>", "()V"⟩
abbrev cX4_house : ByteArray := prog_1_method_2_code
def yX4_house : MethodName := ⟨RX4, "house", "(III)I"⟩
abbrev cX4_houseOf : ByteArray := prog_1_method_3_code
def yX4_houseOf : MethodName := ⟨RX4, "houseOf", "(II)I"⟩
abbrev cX4_rumour : ByteArray := prog_1_method_4_code
def yX4_rumour : MethodName := ⟨RX4, "rumour", "(II)I"⟩
abbrev cX4_of : ByteArray := prog_1_method_5_code
def yX4_of : MethodName := ⟨RX4, "of", "(II)I"⟩
abbrev cX4_set : ByteArray := prog_1_method_6_code
def yX4_set : MethodName := ⟨RX4, "set", "(III)I"⟩
abbrev cX4_turn : ByteArray := prog_1_method_7_code
def yX4_turn : MethodName := ⟨RX4, "turn", "(II)I"⟩
abbrev cX4_as : ByteArray := prog_1_method_8_code
def yX4_as : MethodName := ⟨RX4, "as", "(II)I"⟩
abbrev cX4_takes : ByteArray := prog_1_method_9_code
def yX4_takes : MethodName := ⟨RX4, "takes", "(II)I"⟩
abbrev cX4_comeIn : ByteArray := prog_1_method_10_code
def yX4_comeIn : MethodName := ⟨RX4, "comeIn", "(I)I"⟩
abbrev cX4_improve : ByteArray := prog_1_method_11_code
def yX4_improve : MethodName := ⟨RX4, "improve", "(II)I"⟩
abbrev cX4_comesTrue : ByteArray := prog_1_method_12_code
def yX4_comesTrue : MethodName := ⟨RX4, "comesTrue", "(I)I"⟩
abbrev cX4_forget : ByteArray := prog_1_method_13_code
def yX4_forget : MethodName := ⟨RX4, "forget", "(I)I"⟩
abbrev cX4_days : ByteArray := prog_1_method_14_code
def yX4_days : MethodName := ⟨RX4, "days", "(I)I"⟩
abbrev cX4_now : ByteArray := prog_1_method_15_code
def yX4_now : MethodName := ⟨RX4, "now", "(I)I"⟩
abbrev cX4_on : ByteArray := prog_1_method_16_code
def yX4_on : MethodName := ⟨RX4, "on", "(III)I"⟩
abbrev cX4_larder : ByteArray := prog_1_method_17_code
def yX4_larder : MethodName := ⟨RX4, "larder", "(II)I"⟩
abbrev cX4_empty : ByteArray := prog_1_method_18_code
def yX4_empty : MethodName := ⟨RX4, "empty", "(I)I"⟩
abbrev cX4_many : ByteArray := prog_1_method_19_code
def yX4_many : MethodName := ⟨RX4, "many", "(I)I"⟩
abbrev cX4_out : ByteArray := prog_1_method_20_code
def yX4_out : MethodName := ⟨RX4, "out", "(I)I"⟩
abbrev cX4_fewest : ByteArray := prog_1_method_21_code
def yX4_fewest : MethodName := ⟨RX4, "fewest", "(II)I"⟩
abbrev cX4_least : ByteArray := prog_1_method_22_code
def yX4_least : MethodName := ⟨RX4, "least", "(I)I"⟩
abbrev cX4_best : ByteArray := prog_1_method_23_code
def yX4_best : MethodName := ⟨RX4, "best", "(I)I"⟩
abbrev cX4_lean : ByteArray := prog_1_method_24_code
def yX4_lean : MethodName := ⟨RX4, "lean", "(II)I"⟩
abbrev cX4_leanFor : ByteArray := prog_1_method_25_code
def yX4_leanFor : MethodName := ⟨RX4, "leanFor", "(II)I"⟩
abbrev cX4_kind : ByteArray := prog_1_method_26_code
def yX4_kind : MethodName := ⟨RX4, "kind", "(I)I"⟩
abbrev cX4_host : ByteArray := prog_1_method_27_code
def yX4_host : MethodName := ⟨RX4, "host", "(I)I"⟩
abbrev cX4_beds : ByteArray := prog_1_method_28_code
def yX4_beds : MethodName := ⟨RX4, "beds", "(II)I"⟩
abbrev cX4_feed : ByteArray := prog_1_method_29_code
def yX4_feed : MethodName := ⟨RX4, "feed", "(II)I"⟩
abbrev cX4_wipe : ByteArray := prog_1_method_30_code
def yX4_wipe : MethodName := ⟨RX4, "wipe", "()I"⟩
abbrev cX4_town : ByteArray := prog_1_method_31_code
def yX4_town : MethodName := ⟨RX4, "town", "()I"⟩
abbrev cX4_sheet : ByteArray := prog_1_method_32_code
def yX4_sheet : MethodName := ⟨RX4, "sheet", "(III)I"⟩
abbrev cX4_write : ByteArray := prog_1_method_33_code
def yX4_write : MethodName := ⟨RX4, "write", "(IIJ)J"⟩
abbrev cX4_copy : ByteArray := prog_1_method_34_code
def yX4_copy : MethodName := ⟨RX4, "copy", "(IIIII)I"⟩
abbrev cX4_lays : ByteArray := prog_1_method_35_code
def yX4_lays : MethodName := ⟨RX4, "lays", "(I)I"⟩
abbrev cX4_book : ByteArray := prog_1_method_36_code
def yX4_book : MethodName := ⟨RX4, "book", "(II)I"⟩
abbrev cX4_read : ByteArray := prog_1_method_37_code
def yX4_read : MethodName := ⟨RX4, "read", "(II)I"⟩
abbrev cX4_image : ByteArray := prog_1_method_38_code
def yX4_image : MethodName := ⟨RX4, "image", "()I"⟩
abbrev cX4_undo : ByteArray := prog_1_method_39_code
def yX4_undo : MethodName := ⟨RX4, "undo", "()I"⟩
abbrev cX4_tear : ByteArray := prog_1_method_40_code
def yX4_tear : MethodName := ⟨RX4, "tear", "()I"⟩
abbrev cX4_count : ByteArray := prog_1_method_41_code
def yX4_count : MethodName := ⟨RX4, "count", "(I)I"⟩
abbrev cX4_status : ByteArray := prog_1_method_42_code
def yX4_status : MethodName := ⟨RX4, "status", "(I)I"⟩
abbrev cX4_finding : ByteArray := prog_1_method_43_code
def yX4_finding : MethodName := ⟨RX4, "finding", "(I)I"⟩
abbrev cX4_isWithin : ByteArray := prog_1_method_44_code
def yX4_isWithin : MethodName := ⟨RX4, "isWithin", "(II)Z"⟩
abbrev cX4_isHouse : ByteArray := prog_1_method_45_code
def yX4_isHouse : MethodName := ⟨RX4, "isHouse", "(I)Z"⟩
abbrev cX4_isKind : ByteArray := prog_1_method_46_code
def yX4_isKind : MethodName := ⟨RX4, "isKind", "(I)Z"⟩
abbrev cX4_isEvent : ByteArray := prog_1_method_47_code
def yX4_isEvent : MethodName := ⟨RX4, "isEvent", "(I)Z"⟩
abbrev cX4_isSheet : ByteArray := prog_1_method_48_code
def yX4_isSheet : MethodName := ⟨RX4, "isSheet", "(I)Z"⟩
abbrev cX4_isRumour : ByteArray := prog_1_method_49_code
def yX4_isRumour : MethodName := ⟨RX4, "isRumour", "(I)Z"⟩
abbrev cX4_mostOfHouse : ByteArray := prog_1_method_50_code
def yX4_mostOfHouse : MethodName := ⟨RX4, "mostOfHouse", "(I)I"⟩
abbrev cX4_mostOfRumour : ByteArray := prog_1_method_51_code
def yX4_mostOfRumour : MethodName := ⟨RX4, "mostOfRumour", "(I)I"⟩
abbrev cX4_sumOf : ByteArray := prog_1_method_52_code
def yX4_sumOf : MethodName := ⟨RX4, "sumOf", "([I)I"⟩
abbrev cX4_findingOfBook : ByteArray := prog_1_method_53_code
def yX4_findingOfBook : MethodName := ⟨RX4, "findingOfBook", "(II)I"⟩
abbrev cX4_isBookOf : ByteArray := prog_1_method_54_code
def yX4_isBookOf : MethodName := ⟨RX4, "isBookOf", "(LRumourBeds$Sheet;I)Z"⟩
def RX5 : String := "RumourBedsModel"
def TX5 : u_T := fun k => match k with
  | 0 => ("RumourBedsModel", "s", "[I", true)
  | 1 => ("RumourBedsModel", "keptS", "[I", true)
  | 2 => ("RumourBedsModel", "other", "[I", true)
  | 3 => ("RumourBedsModel", "aside", "[I", true)
  | 4 => ("RumourBedsModel", "statuses", "[I", true)
  | 5 => ("RumourBedsModel", "isKept", "Z", false)
  | 6 => ("RumourBedsModel", "tape", "[I", true)
  | 7 => ("RumourBedsModel", "taped", "I", false)
  | 8 => ("RumourBedsModel", "from", "I", false)
  | 9 => ("RumourBedsModel", "to", "I", false)
  | 10 => ("RumourBedsModel", "value", "I", false)
  | 11 => ("RumourBedsModel", "isWrong", "Z", false)
  | 12 => ("RumourBedsModel", "bitsOf", "[I", true)
  | 13 => ("RumourBedsModel", "sizeOf", "[I", true)
  | 14 => ("RumourBedsModel", "numbers", "[J", true)
  | _ => ("RumourBedsModel", "moved", "[J", true)
def tyX5 : Nat → FieldType := fun k => match k with
  | 0 => .array .int
  | 1 => .array .int
  | 2 => .array .int
  | 3 => .array .int
  | 4 => .array .int
  | 5 => .boolean
  | 6 => .array .int
  | 7 => .int
  | 8 => .int
  | 9 => .int
  | 10 => .int
  | 11 => .boolean
  | 12 => .array .int
  | 13 => .array .int
  | 14 => .array .long
  | _ => .array .long
theorem nmX5 : ∀ a, a < 16 → ∀ b, b < 16 → a ≠ b → (TX5 a).2.1 ≠ (TX5 b).2.1 := by decide +kernel
theorem tyX5_ok : ∀ k, k < 16 → parseFieldDescriptor (TX5 k).2.2.1 = some (tyX5 k) := by decide +kernel
abbrev cX5_init : ByteArray := prog_7_method_1_code
def yX5_init : MethodName := ⟨RX5, "<init>", "()V"⟩
abbrev cX5_in : ByteArray := prog_7_method_2_code
def yX5_in : MethodName := ⟨RX5, "in", "(JJJ)Z"⟩
abbrev cX5_finds : ByteArray := prog_7_method_3_code
def yX5_finds : MethodName := ⟨RX5, "finds", "(I)I"⟩
abbrev cX5_saves : ByteArray := prog_7_method_4_code
def yX5_saves : MethodName := ⟨RX5, "saves", "()V"⟩
abbrev cX5_putsBack : ByteArray := prog_7_method_5_code
def yX5_putsBack : MethodName := ⟨RX5, "putsBack", "()V"⟩
abbrev cX5_laysAside : ByteArray := prog_7_method_6_code
def yX5_laysAside : MethodName := ⟨RX5, "laysAside", "()V"⟩
abbrev cX5_takesBack : ByteArray := prog_7_method_7_code
def yX5_takesBack : MethodName := ⟨RX5, "takesBack", "(I)I"⟩
abbrev cX5_becomes : ByteArray := prog_7_method_8_code
def yX5_becomes : MethodName := ⟨RX5, "becomes", "(II)I"⟩
abbrev cX5_isHouse : ByteArray := prog_7_method_9_code
def yX5_isHouse : MethodName := ⟨RX5, "isHouse", "(I)Z"⟩
abbrev cX5_isRumour : ByteArray := prog_7_method_10_code
def yX5_isRumour : MethodName := ⟨RX5, "isRumour", "(I)Z"⟩
abbrev cX5_isKind : ByteArray := prog_7_method_11_code
def yX5_isKind : MethodName := ⟨RX5, "isKind", "(I)Z"⟩
abbrev cX5_isEvent : ByteArray := prog_7_method_12_code
def yX5_isEvent : MethodName := ⟨RX5, "isEvent", "(I)Z"⟩
abbrev cX5_partOf : ByteArray := prog_7_method_13_code
def yX5_partOf : MethodName := ⟨RX5, "partOf", "(II)I"⟩
abbrev cX5_spotOf : ByteArray := prog_7_method_14_code
def yX5_spotOf : MethodName := ⟨RX5, "spotOf", "(II)I"⟩
abbrev cX5_its : ByteArray := prog_7_method_15_code
def yX5_its : MethodName := ⟨RX5, "its", "(II)I"⟩
abbrev cX5_has : ByteArray := prog_7_method_16_code
def yX5_has : MethodName := ⟨RX5, "has", "(II)I"⟩
abbrev cX5_house : ByteArray := prog_7_method_17_code
def yX5_house : MethodName := ⟨RX5, "house", "(III)I"⟩
abbrev cX5_thoseAt : ByteArray := prog_7_method_18_code
def yX5_thoseAt : MethodName := ⟨RX5, "thoseAt", "(I)I"⟩
abbrev cX5_ones : ByteArray := prog_7_method_19_code
def yX5_ones : MethodName := ⟨RX5, "ones", "(I)I"⟩
abbrev cX5_eventsAt : ByteArray := prog_7_method_20_code
def yX5_eventsAt : MethodName := ⟨RX5, "eventsAt", "(I)I"⟩
abbrev cX5_eatenAt : ByteArray := prog_7_method_21_code
def yX5_eatenAt : MethodName := ⟨RX5, "eatenAt", "(I)I"⟩
abbrev cX5_houseOf : ByteArray := prog_7_method_22_code
def yX5_houseOf : MethodName := ⟨RX5, "houseOf", "(II)I"⟩
abbrev cX5_adds : ByteArray := prog_7_method_23_code
def yX5_adds : MethodName := ⟨RX5, "adds", "(II)I"⟩
abbrev cX5_rumour : ByteArray := prog_7_method_24_code
def yX5_rumour : MethodName := ⟨RX5, "rumour", "(II)I"⟩
abbrev cX5_eats : ByteArray := prog_7_method_25_code
def yX5_eats : MethodName := ⟨RX5, "eats", "(I)I"⟩
abbrev cX5_needs : ByteArray := prog_7_method_26_code
def yX5_needs : MethodName := ⟨RX5, "needs", "(I)I"⟩
abbrev cX5_grows : ByteArray := prog_7_method_27_code
def yX5_grows : MethodName := ⟨RX5, "grows", "(I)I"⟩
abbrev cX5_of : ByteArray := prog_7_method_28_code
def yX5_of : MethodName := ⟨RX5, "of", "(II)I"⟩
abbrev cX5_set : ByteArray := prog_7_method_29_code
def yX5_set : MethodName := ⟨RX5, "set", "(III)I"⟩
abbrev cX5_turn : ByteArray := prog_7_method_30_code
def yX5_turn : MethodName := ⟨RX5, "turn", "(II)I"⟩
abbrev cX5_isUnder : ByteArray := prog_7_method_31_code
def yX5_isUnder : MethodName := ⟨RX5, "isUnder", "(II)Z"⟩
abbrev cX5_as : ByteArray := prog_7_method_32_code
def yX5_as : MethodName := ⟨RX5, "as", "(II)I"⟩
abbrev cX5_isFree : ByteArray := prog_7_method_33_code
def yX5_isFree : MethodName := ⟨RX5, "isFree", "(I)Z"⟩
abbrev cX5_isTaken : ByteArray := prog_7_method_34_code
def yX5_isTaken : MethodName := ⟨RX5, "isTaken", "(II)Z"⟩
abbrev cX5_takes : ByteArray := prog_7_method_35_code
def yX5_takes : MethodName := ⟨RX5, "takes", "(II)I"⟩
abbrev cX5_isTrue : ByteArray := prog_7_method_36_code
def yX5_isTrue : MethodName := ⟨RX5, "isTrue", "(I)Z"⟩
abbrev cX5_hostOf : ByteArray := prog_7_method_37_code
def yX5_hostOf : MethodName := ⟨RX5, "hostOf", "(I)I"⟩
abbrev cX5_comeIn : ByteArray := prog_7_method_38_code
def yX5_comeIn : MethodName := ⟨RX5, "comeIn", "(I)I"⟩
abbrev cX5_heldTo : ByteArray := prog_7_method_39_code
def yX5_heldTo : MethodName := ⟨RX5, "heldTo", "(II)I"⟩
abbrev cX5_isImproved : ByteArray := prog_7_method_40_code
def yX5_isImproved : MethodName := ⟨RX5, "isImproved", "(II)V"⟩
abbrev cX5_improve : ByteArray := prog_7_method_41_code
def yX5_improve : MethodName := ⟨RX5, "improve", "(II)I"⟩
abbrev cX5_becomesTrue : ByteArray := prog_7_method_42_code
def yX5_becomesTrue : MethodName := ⟨RX5, "becomesTrue", "(I)I"⟩
abbrev cX5_comesTrue : ByteArray := prog_7_method_43_code
def yX5_comesTrue : MethodName := ⟨RX5, "comesTrue", "(I)I"⟩
abbrev cX5_forget : ByteArray := prog_7_method_44_code
def yX5_forget : MethodName := ⟨RX5, "forget", "(I)I"⟩
abbrev cX5_feeds : ByteArray := prog_7_method_45_code
def yX5_feeds : MethodName := ⟨RX5, "feeds", "(I)V"⟩
abbrev cX5_isOnRoad : ByteArray := prog_7_method_46_code
def yX5_isOnRoad : MethodName := ⟨RX5, "isOnRoad", "(I)Z"⟩
abbrev cX5_lodgersOf : ByteArray := prog_7_method_47_code
def yX5_lodgersOf : MethodName := ⟨RX5, "lodgersOf", "(II)I"⟩
abbrev cX5_makesThird : ByteArray := prog_7_method_48_code
def yX5_makesThird : MethodName := ⟨RX5, "makesThird", "(I)V"⟩
abbrev cX5_day : ByteArray := prog_7_method_49_code
def yX5_day : MethodName := ⟨RX5, "day", "()V"⟩
abbrev cX5_daysGo : ByteArray := prog_7_method_50_code
def yX5_daysGo : MethodName := ⟨RX5, "daysGo", "(I)V"⟩
abbrev cX5_days : ByteArray := prog_7_method_51_code
def yX5_days : MethodName := ⟨RX5, "days", "(I)I"⟩
abbrev cX5_larders : ByteArray := prog_7_method_52_code
def yX5_larders : MethodName := ⟨RX5, "larders", "()I"⟩
abbrev cX5_bulks : ByteArray := prog_7_method_53_code
def yX5_bulks : MethodName := ⟨RX5, "bulks", "()I"⟩
abbrev cX5_freeBeds : ByteArray := prog_7_method_54_code
def yX5_freeBeds : MethodName := ⟨RX5, "freeBeds", "()I"⟩
abbrev cX5_eaten : ByteArray := prog_7_method_55_code
def yX5_eaten : MethodName := ⟨RX5, "eaten", "()I"⟩
abbrev cX5_now : ByteArray := prog_7_method_56_code
def yX5_now : MethodName := ⟨RX5, "now", "(I)I"⟩
abbrev cX5_isAhead : ByteArray := prog_7_method_57_code
def yX5_isAhead : MethodName := ⟨RX5, "isAhead", "(I)Z"⟩
abbrev cX5_behind : ByteArray := prog_7_method_58_code
def yX5_behind : MethodName := ⟨RX5, "behind", "(II)I"⟩
abbrev cX5_on : ByteArray := prog_7_method_59_code
def yX5_on : MethodName := ⟨RX5, "on", "(III)I"⟩
abbrev cX5_larder : ByteArray := prog_7_method_60_code
def yX5_larder : MethodName := ⟨RX5, "larder", "(II)I"⟩
abbrev cX5_firstAs : ByteArray := prog_7_method_61_code
def yX5_firstAs : MethodName := ⟨RX5, "firstAs", "(II)I"⟩
abbrev cX5_empty : ByteArray := prog_7_method_62_code
def yX5_empty : MethodName := ⟨RX5, "empty", "(I)I"⟩
abbrev cX5_many : ByteArray := prog_7_method_63_code
def yX5_many : MethodName := ⟨RX5, "many", "(I)I"⟩
abbrev cX5_out : ByteArray := prog_7_method_64_code
def yX5_out : MethodName := ⟨RX5, "out", "(I)I"⟩
abbrev cX5_wrongLodger : ByteArray := prog_7_method_65_code
def yX5_wrongLodger : MethodName := ⟨RX5, "wrongLodger", "(I)I"⟩
abbrev cX5_fewest : ByteArray := prog_7_method_66_code
def yX5_fewest : MethodName := ⟨RX5, "fewest", "(II)I"⟩
abbrev cX5_least : ByteArray := prog_7_method_67_code
def yX5_least : MethodName := ⟨RX5, "least", "(I)I"⟩
abbrev cX5_isSoon : ByteArray := prog_7_method_68_code
def yX5_isSoon : MethodName := ⟨RX5, "isSoon", "(I)Z"⟩
abbrev cX5_best : ByteArray := prog_7_method_69_code
def yX5_best : MethodName := ⟨RX5, "best", "(I)I"⟩
abbrev cX5_lean : ByteArray := prog_7_method_70_code
def yX5_lean : MethodName := ⟨RX5, "lean", "(II)I"⟩
abbrev cX5_leanFor : ByteArray := prog_7_method_71_code
def yX5_leanFor : MethodName := ⟨RX5, "leanFor", "(II)I"⟩
abbrev cX5_kind : ByteArray := prog_7_method_72_code
def yX5_kind : MethodName := ⟨RX5, "kind", "(I)I"⟩
abbrev cX5_host : ByteArray := prog_7_method_73_code
def yX5_host : MethodName := ⟨RX5, "host", "(I)I"⟩
abbrev cX5_beds : ByteArray := prog_7_method_74_code
def yX5_beds : MethodName := ⟨RX5, "beds", "(II)I"⟩
abbrev cX5_feed : ByteArray := prog_7_method_75_code
def yX5_feed : MethodName := ⟨RX5, "feed", "(II)I"⟩
abbrev cX5_wipe : ByteArray := prog_7_method_76_code
def yX5_wipe : MethodName := ⟨RX5, "wipe", "()I"⟩
abbrev cX5_byteAt : ByteArray := prog_7_method_77_code
def yX5_byteAt : MethodName := ⟨RX5, "byteAt", "(I)I"⟩
abbrev cX5_isLetter : ByteArray := prog_7_method_78_code
def yX5_isLetter : MethodName := ⟨RX5, "isLetter", "(I)Z"⟩
abbrev cX5_isDigit : ByteArray := prog_7_method_79_code
def yX5_isDigit : MethodName := ⟨RX5, "isDigit", "(I)Z"⟩
abbrev cX5_token : ByteArray := prog_7_method_80_code
def yX5_token : MethodName := ⟨RX5, "token", "()V"⟩
abbrev cX5_must : ByteArray := prog_7_method_81_code
def yX5_must : MethodName := ⟨RX5, "must", "(Z)V"⟩
abbrev cX5_word : ByteArray := prog_7_method_82_code
def yX5_word : MethodName := ⟨RX5, "word", "()J"⟩
abbrev cX5_number : ByteArray := prog_7_method_83_code
def yX5_number : MethodName := ⟨RX5, "number", "(II)V"⟩
abbrev cX5_kindHere : ByteArray := prog_7_method_84_code
def yX5_kindHere : MethodName := ⟨RX5, "kindHere", "()I"⟩
abbrev cX5_partItem : ByteArray := prog_7_method_85_code
def yX5_partItem : MethodName := ⟨RX5, "partItem", "(JII)V"⟩
abbrev cX5_peeked : ByteArray := prog_7_method_86_code
def yX5_peeked : MethodName := ⟨RX5, "peeked", "()I"⟩
abbrev cX5_rumourItem : ByteArray := prog_7_method_87_code
def yX5_rumourItem : MethodName := ⟨RX5, "rumourItem", "(I)V"⟩
abbrev cX5_houseItem : ByteArray := prog_7_method_88_code
def yX5_houseItem : MethodName := ⟨RX5, "houseItem", "()V"⟩
abbrev cX5_item : ByteArray := prog_7_method_89_code
def yX5_item : MethodName := ⟨RX5, "item", "()V"⟩
abbrev cX5_town : ByteArray := prog_7_method_90_code
def yX5_town : MethodName := ⟨RX5, "town", "()I"⟩
abbrev cX5_isOne : ByteArray := prog_7_method_91_code
def yX5_isOne : MethodName := ⟨RX5, "isOne", "(I)Z"⟩
abbrev cX5_sheet : ByteArray := prog_7_method_92_code
def yX5_sheet : MethodName := ⟨RX5, "sheet", "(III)I"⟩
abbrev cX5_narrowed : ByteArray := prog_7_method_93_code
def yX5_narrowed : MethodName := ⟨RX5, "narrowed", "(IJ)J"⟩
abbrev cX5_wrongSheet : ByteArray := prog_7_method_94_code
def yX5_wrongSheet : MethodName := ⟨RX5, "wrongSheet", "(I)I"⟩
abbrev cX5_write : ByteArray := prog_7_method_95_code
def yX5_write : MethodName := ⟨RX5, "write", "(IIJ)J"⟩
abbrev cX5_copy : ByteArray := prog_7_method_96_code
def yX5_copy : MethodName := ⟨RX5, "copy", "(IIIII)I"⟩
abbrev cX5_lays : ByteArray := prog_7_method_97_code
def yX5_lays : MethodName := ⟨RX5, "lays", "(I)I"⟩
abbrev cX5_wrongBook : ByteArray := prog_7_method_98_code
def yX5_wrongBook : MethodName := ⟨RX5, "wrongBook", "(II)I"⟩
abbrev cX5_book : ByteArray := prog_7_method_99_code
def yX5_book : MethodName := ⟨RX5, "book", "(II)I"⟩
abbrev cX5_isBook : ByteArray := prog_7_method_100_code
def yX5_isBook : MethodName := ⟨RX5, "isBook", "(II)Z"⟩
abbrev cX5_read : ByteArray := prog_7_method_101_code
def yX5_read : MethodName := ⟨RX5, "read", "(II)I"⟩
abbrev cX5_image : ByteArray := prog_7_method_102_code
def yX5_image : MethodName := ⟨RX5, "image", "()I"⟩
abbrev cX5_undo : ByteArray := prog_7_method_103_code
def yX5_undo : MethodName := ⟨RX5, "undo", "()I"⟩
abbrev cX5_tear : ByteArray := prog_7_method_104_code
def yX5_tear : MethodName := ⟨RX5, "tear", "()I"⟩
abbrev cX5_bedsAll : ByteArray := prog_7_method_105_code
def yX5_bedsAll : MethodName := ⟨RX5, "bedsAll", "()I"⟩
abbrev cX5_count : ByteArray := prog_7_method_106_code
def yX5_count : MethodName := ⟨RX5, "count", "(I)I"⟩
abbrev cX5_status : ByteArray := prog_7_method_107_code
def yX5_status : MethodName := ⟨RX5, "status", "(I)I"⟩
def RJ9 : String := "java/lang/Math"
def TJ9 : u_T := fun k => match k with
  | _ => ("", "", "", false)
def tyJ9 : Nat → FieldType := fun k => match k with
  | _ => .int
theorem nmJ9 : ∀ a, a < 0 → ∀ b, b < 0 → a ≠ b → (TJ9 a).2.1 ≠ (TJ9 b).2.1 := by decide +kernel
theorem tyJ9_ok : ∀ k, k < 0 → parseFieldDescriptor (TJ9 k).2.2.1 = some (tyJ9 k) := by decide +kernel
abbrev cJ9_max_7cf53 : ByteArray := prog_8_method_65_code
def yJ9_max_7cf53 : MethodName := ⟨RJ9, "max", "(II)I"⟩
abbrev cJ9_min_7cf53 : ByteArray := prog_8_method_69_code
def yJ9_min_7cf53 : MethodName := ⟨RJ9, "min", "(II)I"⟩
def RJ0 : String := "java/lang/String"
def TJ0 : u_T := fun k => match k with
  | _ => ("", "", "", false)
def tyJ0 : Nat → FieldType := fun k => match k with
  | _ => .int
theorem nmJ0 : ∀ a, a < 0 → ∀ b, b < 0 → a ≠ b → (TJ0 a).2.1 ≠ (TJ0 b).2.1 := by decide +kernel
theorem tyJ0_ok : ∀ k, k < 0 → parseFieldDescriptor (TJ0 k).2.2.1 = some (tyJ0 k) := by decide +kernel
abbrev cJ0_length_8abf5 : ByteArray := prog_9_method_54_code
def yJ0_length_8abf5 : MethodName := ⟨RJ0, "length", "()I"⟩
abbrev cJ0_charAt_5068e : ByteArray := prog_9_method_56_code
def yJ0_charAt_5068e : MethodName := ⟨RJ0, "charAt", "(I)C"⟩
abbrev cJ0_coder_7d493 : ByteArray := prog_9_method_152_code
def yJ0_coder_7d493 : MethodName := ⟨RJ0, "coder", "()B"⟩
abbrev cJ0_isLatin1_aae02 : ByteArray := prog_9_method_154_code
def yJ0_isLatin1_aae02 : MethodName := ⟨RJ0, "isLatin1", "()Z"⟩
abbrev cJ0_checkIndex_df160 : ByteArray := prog_9_method_155_code
def yJ0_checkIndex_df160 : MethodName := ⟨RJ0, "checkIndex", "(II)V"⟩
def RJ1 : String := "java/lang/StringLatin1"
def TJ1 : u_T := fun k => match k with
  | _ => ("", "", "", false)
def tyJ1 : Nat → FieldType := fun k => match k with
  | _ => .int
theorem nmJ1 : ∀ a, a < 0 → ∀ b, b < 0 → a ≠ b → (TJ1 a).2.1 ≠ (TJ1 b).2.1 := by decide +kernel
theorem tyJ1_ok : ∀ k, k < 0 → parseFieldDescriptor (TJ1 k).2.2.1 = some (tyJ1 k) := by decide +kernel
abbrev cJ1_charAt_3b067 : ByteArray := prog_10_method_2_code
def yJ1_charAt_3b067 : MethodName := ⟨RJ1, "charAt", "([BI)C"⟩
def RJ2 : String := "java/lang/StringUTF16"
def TJ2 : u_T := fun k => match k with
  | _ => ("", "", "", false)
def tyJ2 : Nat → FieldType := fun k => match k with
  | _ => .int
theorem nmJ2 : ∀ a, a < 0 → ∀ b, b < 0 → a ≠ b → (TJ2 a).2.1 ≠ (TJ2 b).2.1 := by decide +kernel
theorem tyJ2_ok : ∀ k, k < 0 → parseFieldDescriptor (TJ2 k).2.2.1 = some (tyJ2 k) := by decide +kernel
abbrev cJ2_getChar_3b067 : ByteArray := prog_11_method_5_code
def yJ2_getChar_3b067 : MethodName := ⟨RJ2, "getChar", "([BI)C"⟩
abbrev cJ2_length_9d52b : ByteArray := prog_11_method_6_code
def yJ2_length_9d52b : MethodName := ⟨RJ2, "length", "([B)I"⟩
abbrev cJ2_charAt_3b067 : ByteArray := prog_11_method_83_code
def yJ2_charAt_3b067 : MethodName := ⟨RJ2, "charAt", "([BI)C"⟩
abbrev cJ2_checkIndex_2214a : ByteArray := prog_11_method_91_code
def yJ2_checkIndex_2214a : MethodName := ⟨RJ2, "checkIndex", "(I[B)V"⟩
def RJ10 : String := "java/lang/System"
def TJ10 : u_T := fun k => match k with
  | _ => ("", "", "", false)
def tyJ10 : Nat → FieldType := fun k => match k with
  | _ => .int
theorem nmJ10 : ∀ a, a < 0 → ∀ b, b < 0 → a ≠ b → (TJ10 a).2.1 ≠ (TJ10 b).2.1 := by decide +kernel
theorem tyJ10_ok : ∀ k, k < 0 → parseFieldDescriptor (TJ10 k).2.2.1 = some (tyJ10 k) := by decide +kernel
def RJ3 : String := "jdk/internal/util/Preconditions"
def TJ3 : u_T := fun k => match k with
  | _ => ("", "", "", false)
def tyJ3 : Nat → FieldType := fun k => match k with
  | _ => .int
theorem nmJ3 : ∀ a, a < 0 → ∀ b, b < 0 → a ≠ b → (TJ3 a).2.1 ≠ (TJ3 b).2.1 := by decide +kernel
theorem tyJ3_ok : ∀ k, k < 0 → parseFieldDescriptor (TJ3 k).2.2.1 = some (tyJ3 k) := by decide +kernel
abbrev cJ3_checkIndex_8e157 : ByteArray := prog_13_method_11_code
def yJ3_checkIndex_8e157 : MethodName := ⟨RJ3, "checkIndex", "(IILjava/util/function/BiFunction;)I"⟩
def RL : String := "RumourBedsLaw"
abbrev cL_law : ByteArray := code
def yL_law : MethodName := ⟨RL, "law", "([I)Z"⟩
abbrev vwCl : List vw_C := [(RX1, TX1, 3), (RX2, TX2, 6), (RX3, TX3, 12), (RX4, TX4, 7), (RX5, TX5, 16)]
end
section
/-! the abstract heap: ints by object, field, place; longs likewise. Objects: 0 1 2 towns (street, ahead, kept), 3 tape, 4..7 sheets, 8 RumourBeds, 9 RumourBedsModel -/
abbrev rb_T : Type := Nat → Nat → Int32
abbrev rb_N : Type := Nat → Nat → Int64
abbrev rb_H : Type := (Nat → rb_T) × (Nat → rb_N)
/-- the world's fixed part: kit's class data, array classes, addresses, addresses of the string constants and of their bytes, the address of ABOVE -/
abbrev rb_G : Type := va_G × (Nat → ClassId) × (Nat → Nat → Nat) × (Nat → Nat) × (Nat → Nat) × Nat
def rb_ad (G : rb_G) (o j : Nat) : Nat := G.2.2.1 o j
def rb_tys (G : rb_G) : List (ClassId × FieldType) := [(G.2.1 0, .int), (G.2.1 1, .long), (G.2.1 2, .object "RumourBeds$Sheet")]
def rb_fk (o : Nat) : List Nat := if o < 3 then [1,1,1,1,0,1,1,1,1,1,0,0] else if o = 3 then [1,0,0,0,0,0] else if o < 8 then [0,0,1] else if o = 8 then [2,3,4,0,5,1,1] else [1,1,1,1,1,0,1,0,0,0,0,0,1,1,1,1]
def rb_ci (o : Nat) : Nat := if o < 3 then 2 else if o = 3 then 1 else if o < 8 then 0 else if o = 8 then 3 else 4
def rb_fv0 (G : rb_G) (h : rb_H) (o j : Nat) : Nat → Value
  | 0 => .int (h.1 o j 0)
  | 1 => .ref (rb_ad G o (j + 1))
  | k + 2 => .ref (rb_ad G k 0)
def rb_fv (G : rb_G) (h : rb_H) (o j : Nat) : Value := rb_fv0 G h o j ((rb_fk o).getD j 0)
def rb_fl (G : rb_G) (h : rb_H) (o : Nat) : List Value := (List.range (rb_fk o).length).map (rb_fv G h o)
/-- an array field: sort (0 int, 1 long, 2 sheets), length -/
def rb_ak (o j : Nat) : Nat × Nat := if o < 3 then (0, if j < 4 then 8 else 10) else if o = 3 then (0, 120) else if o < 8 then (1, 40) else if o = 8 then (if j = 5 then (2, 4) else (0, 7)) else if j < 4 then (0, 77) else if j = 4 then (0, 7) else if j = 6 then (0, 120) else if j < 14 then (0, 4) else if j = 14 then (1, 160) else (1, 40)
def rb_ac (G : rb_G) (h : rb_H) (o j : Nat) : Nat → va_E
  | 0 => .inl (G.2.1 0, (rb_ak o j).2, .inl (h.1 o j))
  | 1 => .inl (G.2.1 1, (rb_ak o j).2, .inr (.inl (h.2 o j)))
  | _ => .inl (G.2.1 2, (rb_ak o j).2, .inr (.inr (.inr (.inr (fun i => some (rb_ad G (4 + i) 0))))))
def rb_cl (G : rb_G) (h : rb_H) (o : Nat) : Nat → va_E
  | 0 => .inr (rb_ci o, rb_fl G h o)
  | j + 1 => rb_ac G h o j (rb_ak o j).1
def rb_ids : List (Nat × Nat) := [(0,0),(0,1),(0,2),(0,3),(0,4),(0,6),(0,7),(0,8),(0,9),(0,10),(1,0),(1,1),(1,2),(1,3),(1,4),(1,6),(1,7),(1,8),(1,9),(1,10),(2,0),(2,1),(2,2),(2,3),(2,4),(2,6),(2,7),(2,8),(2,9),(2,10),(3,0),(3,1),(4,0),(4,3),(5,0),(5,3),(6,0),(6,3),(7,0),(7,3),(8,0),(8,6),(8,7),(9,0),(9,1),(9,2),(9,3),(9,4),(9,5),(9,7),(9,13),(9,14),(9,15),(9,16)]
def rb_cw (G : rb_G) (h : rb_H) : va_W := rb_ids.map (fun q => (rb_ad G q.1 q.2, rb_cl G h q.1 q.2))
def rb_AD (G : rb_G) : Nat → Prop := fun a => ∃ q ∈ rb_ids, a = rb_ad G q.1 q.2
theorem rb_nd : rb_ids.Nodup := by decide
theorem rb_at {G : rb_G} {h : rb_H} {o j : Nat} (hq : (o, j) ∈ rb_ids) : ∃ k : Nat, rb_ids[k]? = some (o, j) ∧ (rb_cw G h)[k]? = some (rb_ad G o j, rb_cl G h o j) := by
  obtain ⟨k, hk⟩ := List.getElem?_of_mem hq
  exact ⟨k, hk, by simp [rb_cw, hk]⟩
theorem rb_set {G : rb_G} {h h' : rb_H} {k o j : Nat} {e : va_E} (hk : rb_ids[k]? = some (o, j)) (he : rb_cl G h' o j = e) (ho : ∀ o' j', (o', j') ∈ rb_ids → (o', j') ≠ (o, j) → rb_cl G h' o' j' = rb_cl G h o' j') : (rb_cw G h).set k (rb_ad G o j, e) = rb_cw G h' := by
  apply List.ext_getElem?
  intro i
  have hkl : k < rb_ids.length := (List.getElem?_eq_some_iff.mp hk).1
  by_cases hik : i = k
  · subst hik
    rw [List.getElem?_set_self (by simpa [rb_cw] using hkl)]
    simp [rb_cw, hk, he]
  · rw [List.getElem?_set_ne (Ne.symm hik)]
    cases hi : rb_ids[i]? with
    | none => simp [rb_cw, hi]
    | some q =>
      obtain ⟨o', j'⟩ := q
      have hne : (o', j') ≠ (o, j) := fun e => hik (by
        have hl : i < rb_ids.length := (List.getElem?_eq_some_iff.mp hi).1
        exact (List.getElem?_inj hl rb_nd).mp (by rw [hi, hk, e]))
      simp [rb_cw, hi, ho o' j' (List.mem_of_getElem? hi) hne]
/-- the tables' words that go along with every call -/
def rb_gd : Cond → Bool
  | .fieldLinkNest .. => true
  | .methodLinkNest .. => true
  | w => w.onTables && w.keeps
def rb_tb (U : State) : Prop := ∀ w ∈ lw_tbl, rb_gd w = true → w.before #[] U = true
theorem rb_gd_on {w : Cond} (h : rb_gd w = true) : w.onTables = true := by
  cases w <;> first | rfl | (simp [rb_gd, Cond.onTables] at h)
theorem rb_tb.use {U : State} (h : rb_tb U) {w : Cond} (hw : w ∈ lw_tbl) (hg : rb_gd w = true) (A : Array Value) : w.before A U = true := va_Nw.use (rb_gd_on hg) (h w hw hg)
theorem rb_tb.same {u U : State} (hv : u.vm = U.vm) (h : rb_tb u) : rb_tb U := fun w hw hg => va_Nw.same (rb_gd_on hg) hv (h w hw hg)
theorem rb_gd_warm {w : Cond} {s U : State} (hg : rb_gd w = true) (hW : s.WarmedH U.vm) (h : w.before #[] s = true) : w.before #[] U = true := by
  by_cases hk : (w.onTables && w.keeps) = true
  · exact word_at hW (Or.inl hk) h
  · cases w <;> first | exact va_Nw.warmF hW h | exact va_Nw.warmM hW h | exact absurd hg hk
theorem rb_tb.warm {s U : State} (hW : s.WarmedH U.vm) (h : rb_tb s) : rb_tb U := fun w hw hg => rb_gd_warm hg hW (h w hw hg)
/-- string constants: whose pool, place, text, bytes -/
def rb_txt : List (String × Nat × String × List Int32) := [("RumourBeds$Kinds", 29, "rumour", [114, 117, 109, 111, 117, 114]), ("RumourBeds$Kinds", 19, "big", [98, 105, 103]), ("RumourBeds$Kinds", 21, "dull", [100, 117, 108, 108]), ("RumourBeds$Kinds", 23, "shy", [115, 104, 121]), ("RumourBeds$Kinds", 25, "royal", [114, 111, 121, 97, 108]), ("RumourBeds$Kinds", 27, "wells", [119, 101, 108, 108, 115]), ("RumourBeds$Tape", 38, "house", [104, 111, 117, 115, 101]), ("RumourBeds$Tape", 47, "true", [116, 114, 117, 101]), ("RumourBeds$Tape", 66, "beds", [98, 101, 100, 115]), ("RumourBeds$Tape", 76, "larder", [108, 97, 114, 100, 101, 114]), ("RumourBeds$Tape", 81, "leans", [108, 101, 97, 110, 115]), ("RumourBeds$Tape", 92, "of", [111, 102]), ("RumourBeds$Tape", 98, "bulk", [98, 117, 108, 107]), ("RumourBeds$Tape", 110, "in", [105, 110])]
def rb_len : List Nat := rb_txt.map (fun q => q.2.2.2.length)
def rb_byt : List (List Int32) := rb_txt.map (fun q => q.2.2.2)
def rb_tx (i : Nat) : String × Nat × String × List Int32 := rb_txt.getD i ("", 0, "", [])
def rb_abv : List Int32 := [-1, 0, 0, 0, 1, 2]
/-- what stays as it is -/
def rb_sw (G : rb_G) (U : State) (H : Heap) : Prop :=
  rb_tb U ∧ va_K G.1 vwCl (rb_tys G) U ∧ (∀ q ∈ rb_ids, ∀ q' ∈ rb_ids, rb_ad G q.1 q.2 = rb_ad G q'.1 q'.2 → q = q') ∧
  vk_S 14 rb_len rb_byt G.2.2.2.1 G.2.2.2.2.1 (rb_AD G) U H ∧ (∀ i, i < 14 → vk_R (rb_tx i).1 (rb_tx i).2.1 (rb_tx i).2.2.1 (G.2.2.2.1 i) U) ∧
  va_Z "RumourBeds$Kinds" "ABOVE" "[I" (.ref G.2.2.2.2.2) (rb_AD G) U H ∧ va_T .int G.2.2.2.2.2 6 (fun j => .int (rb_abv.getD j 0)) (rb_AD G) U H ∧
  va_Z "java/lang/String" "COMPACT_STRINGS" "Z" (.int 1) (rb_AD G) U H
theorem rb_sw.same {G : rb_G} {u U : State} {H : Heap} (hv : u.vm = U.vm) (h : rb_sw G u H) : rb_sw G U H := by
  obtain ⟨h1, h2, h3, h4, h5, h6, h7, h8⟩ := h
  have ha : u.vm.Alike U.vm := by rw [hv]; exact Vm.Alike.refl _
  exact ⟨h1.same hv, va_K.moved ha h2, h3, h4.moved ha, fun i hi => vk_R.same hv.symm (h5 i hi), h6.moved ha, h7.moved ha, h8.moved ha⟩
theorem rb_sw.warm {G : rb_G} {s U : State} {H : Heap} (hW : s.WarmedH U.vm) (h : rb_sw G s H) : rb_sw G U H := by
  obtain ⟨h1, h2, h3, h4, h5, h6, h7, h8⟩ := h
  have ha := hW.alike
  exact ⟨h1.warm hW, va_K.moved ha h2, h3, h4.moved ha, fun i hi => vk_R.warm hW (h5 i hi), h6.moved ha, h7.moved ha, h8.moved ha⟩
theorem rb_sw.kept {G : rb_G} {U : State} {H H1 : Heap} (h : rb_sw G U H) (hq : ∀ a : Nat, a < H.size → ¬ rb_AD G a → H1[a]? = H[a]?) : rb_sw G U H1 := by
  obtain ⟨h1, h2, h3, h4, h5, h6, h7, h8⟩ := h
  exact ⟨h1, h2, h3, h4.kept hq, h5, h6.kept hq, h7.kept hq, h8.kept hq⟩
theorem rb_D {G : rb_G} {A : Nat → Prop} {h : rb_H} (hi : ∀ q ∈ rb_ids, ∀ q' ∈ rb_ids, rb_ad G q.1 q.2 = rb_ad G q'.1 q'.2 → q = q') (hA : ∀ a, rb_AD G a → A a) : va_D A (rb_cw G h) := by
  have key : ∀ (k : Nat) (x : Nat × va_E), (rb_cw G h)[k]? = some x → ∃ q, rb_ids[k]? = some q ∧ x.1 = rb_ad G q.1 q.2 := by
    intro k x hk
    simp only [rb_cw, List.getElem?_map, Option.map_eq_some_iff] at hk
    obtain ⟨q, h1, h2⟩ := hk
    exact ⟨q, h1, by rw [← h2]⟩
  refine ⟨fun i j x y hx hy hxy => ?_, fun k x hx => ?_⟩
  · obtain ⟨q, h1, h2⟩ := key i x hx
    obtain ⟨q', h3, h4⟩ := key j y hy
    have e := hi q (List.mem_of_getElem? h1) q' (List.mem_of_getElem? h3) (by rw [← h2, ← h4, hxy])
    subst e
    exact (List.getElem?_inj (List.getElem?_eq_some_iff.mp h1).1 rb_nd).mp (by rw [h1, h3])
  · obtain ⟨q, h1, h2⟩ := key k x hx
    exact hA _ ⟨q, List.mem_of_getElem? h1, h2⟩
/-! locals as a list of values (null: not known) -/
def rb_pr : Nat → List Value → List (Nat × Value)
  | _, [] => []
  | i, .null :: l => rb_pr (i + 1) l
  | i, v :: l => (i, v) :: rb_pr (i + 1) l
theorem rb_pr_mem : ∀ (L : List Value) (n : Nat) (q : Nat × Value), q ∈ rb_pr n L ↔ ∃ i, q.1 = n + i ∧ L[i]? = some q.2 ∧ q.2 ≠ .null := by
  intro L
  induction L with
  | nil => intro n q; simp [rb_pr]
  | cons v l ih =>
    intro n q
    have step : (∃ i, q.1 = n + i ∧ (v :: l)[i]? = some q.2 ∧ q.2 ≠ .null) ↔ (q.1 = n ∧ v = q.2 ∧ q.2 ≠ .null) ∨ ∃ i, q.1 = n + 1 + i ∧ l[i]? = some q.2 ∧ q.2 ≠ .null := by
      constructor
      · rintro ⟨i, h1, h2, h3⟩
        cases i with
        | zero => exact Or.inl ⟨by omega, by simpa using h2, h3⟩
        | succ i => exact Or.inr ⟨i, by omega, by simpa using h2, h3⟩
      · rintro (⟨h1, h2, h3⟩ | ⟨i, h1, h2, h3⟩)
        · exact ⟨0, by omega, by simpa using h2, h3⟩
        · exact ⟨i + 1, by omega, by simpa using h2, h3⟩
    rw [step]
    cases v with
    | null => simp only [rb_pr, ih]; constructor <;> intro h; exact Or.inr h; rcases h with ⟨_, h2, h3⟩ | h; exact absurd h2.symm h3; exact h
    | _ =>
      simp only [rb_pr, List.mem_cons, ih]
      constructor
      · rintro (rfl | h)
        · exact Or.inl ⟨rfl, rfl, by simp⟩
        · exact Or.inr h
      · rintro (⟨h1, h2, h3⟩ | h)
        · exact Or.inl (by obtain ⟨a, b⟩ := q; simp only at h1 h2; subst h1; subst h2; rfl)
        · exact Or.inr h
def rb_HL (ls : Array Slot) (nL : Nat) (L : List Value) : Prop := lv_has ls nL (rb_pr 0 L)
theorem rb_HL.at {ls : Array Slot} {nL : Nat} {L : List Value} (h : rb_HL ls nL L) {i : Nat} {v : Value} (hi : L[i]? = some v) (hn : v ≠ .null) : ls[i]? = some (.val v) := h.2.2 (i, v) ((rb_pr_mem L 0 (i, v)).mpr ⟨i, by simp, hi, hn⟩)
def rb_ok1 (L : List Value) : Nat → Bool
  | 0 => true
  | j + 1 => match L[j]? with
    | some v => !(v.category == 2)
    | none => true
theorem rb_HL.set1 {ls : Array Slot} {nL : Nat} {L : List Value} {i : Nat} {v : Value} (hv : rb_ok1 L i = true) (h : lv_has ls nL ((i, v) :: (rb_pr 0 L).filter (fun q => !(q.1 == i) && !(q.1 + 1 == i && q.2.category == 2)))) : rb_HL ls nL (L.set i v) := by
  refine ⟨h.1, h.2.1, fun q hq => h.2.2 q ?_⟩
  obtain ⟨j, h1, h2, h3⟩ := (rb_pr_mem _ _ _).mp hq
  rw [Nat.zero_add] at h1
  by_cases hj : j = i
  · subst hj
    have hl : j < (L.set j v).length := (List.getElem?_eq_some_iff.mp h2).1
    rw [List.getElem?_set_self (by simpa using hl)] at h2
    have : q = (j, v) := by obtain ⟨a, b⟩ := q; simp only at h1 h2; rw [h1, ← Option.some.inj h2]
    rw [this]; exact List.mem_cons_self
  · rw [List.getElem?_set_ne (Ne.symm hj)] at h2
    refine List.mem_cons_of_mem _ (List.mem_filter.mpr ⟨(rb_pr_mem _ _ _).mpr ⟨j, by omega, h2, h3⟩, ?_⟩)
    have e1 : (q.1 == i) = false := by simp; omega
    rw [e1]
    cases hc : (q.1 + 1 == i) with
    | false => simp
    | true =>
      have e2 : i = j + 1 := by simp at hc; omega
      subst e2
      simp only [rb_ok1, h2] at hv
      simp at hv ⊢
      exact hv
theorem rb_HL.set2 {ls : Array Slot} {nL : Nat} {L : List Value} {i : Nat} {v : Value} (hv : rb_ok1 L i = true) (h : lv_has ls nL ((i, v) :: (rb_pr 0 L).filter (fun q => !(q.1 == i) && (!(q.1 == i + 1) && !(q.1 + 1 == i && q.2.category == 2))))) : rb_HL ls nL ((L.set i v).set (i + 1) .null) := by
  refine ⟨h.1, h.2.1, fun q hq => h.2.2 q ?_⟩
  obtain ⟨j, h1, h2, h3⟩ := (rb_pr_mem _ _ _).mp hq
  rw [Nat.zero_add] at h1
  by_cases hj1 : j = i + 1
  · subst hj1
    have hl : i + 1 < ((L.set i v).set (i + 1) .null).length := (List.getElem?_eq_some_iff.mp h2).1
    rw [List.getElem?_set_self (by simpa using hl)] at h2
    exact absurd (Option.some.inj h2).symm h3
  rw [List.getElem?_set_ne (Ne.symm hj1)] at h2
  by_cases hj : j = i
  · subst hj
    have hl : j < (L.set j v).length := (List.getElem?_eq_some_iff.mp h2).1
    rw [List.getElem?_set_self (by simpa using hl)] at h2
    have : q = (j, v) := by obtain ⟨a, b⟩ := q; simp only at h1 h2; rw [h1, ← Option.some.inj h2]
    rw [this]; exact List.mem_cons_self
  · rw [List.getElem?_set_ne (Ne.symm hj)] at h2
    refine List.mem_cons_of_mem _ (List.mem_filter.mpr ⟨(rb_pr_mem _ _ _).mpr ⟨j, by omega, h2, h3⟩, ?_⟩)
    have e1 : (q.1 == i) = false := by simp; omega
    have e3 : (q.1 == i + 1) = false := by simp; omega
    rw [e1, e3]
    cases hc : (q.1 + 1 == i) with
    | false => simp
    | true =>
      have e2 : i = j + 1 := by simp at hc; omega
      subst e2
      simp only [rb_ok1, h2] at hv
      simp at hv ⊢
      exact hv
/-! the machine's side of a walk -/
abbrev rb_Z : Type := Program × Launch × Env × Room × State × MethodId × Array Value × List Frame × Method × Code × (Nat → Prop) × Nat × Nat × (State → Prop)
/-- WP: from every machine that holds the abstract heap h and the locals L, at pc with stack S, the machine comes to its end -/
def rb_WP (Z : rb_Z) (G : rb_G) (nL pc : Nat) (L S : List Value) (h : rb_H) : Prop := match Z with
  | (p, l, e, R, s, m, args, below, meth, c, A, cells, slots, Q) => ∀ (H : Heap) (locs : List Loc) (ls : Array Slot), va_P G.1 vwCl (rb_cw G h) H → va_S A s.heap H locs → rb_HL ls nL L → W p l e R s m args below meth c H locs cells slots Q (F0 m pc ls S)
def rb_CX (Z : rb_Z) (G : rb_G) (cc : ByteArray) (nL : Nat) (own : String) (k : Nat) : Prop := match Z with
  | (p, l, e, R, s, m, args, below, meth, c, A, cells, slots, Q) => p.tables.exec = Jvm.exec ∧ c.code = cc ∧ c.maxLocals = nL ∧ s.vm.findClass own = some m.cls ∧ rb_sw G s s.heap ∧ (∀ a, rb_AD G a → A a) ∧ (∀ a, a < s.heap.size → A a → rb_AD G a) ∧ k ≤ R.frames ∧ 44 * k ≤ R.locals ∧ cells ≤ R.cells ∧ slots ≤ R.slots
def rb_rm (k : Nat) : Room := { frames := k, cells := 0, slots := 0, locals := 44 * k }
def rb_W (G : rb_G) (h : rb_H) (U : State) : Prop := va_P G.1 vwCl (rb_cw G h) U.heap ∧ rb_sw G U U.heap
def rb_post (G : rb_G) (post : Option Value → rb_H → Prop) : Array Value → State → Outcome → State → Prop := fun _ st oc t => (∃ r h', oc = .returned r ∧ post r h' ∧ va_P G.1 vwCl (rb_cw G h') t.heap) ∧ va_F (rb_AD G) st t
/-- a contract: from the abstract heap h, with these arguments, y returns with 'post answer heap' -/
def rb_M (G : rb_G) (k : Nat) (y : MethodName) (cc : ByteArray) (nL : Nat) (rt : Option FieldType) (av : List Value) (h : rb_H) (post : Option Value → rb_H → Prop) : Prop :=
  ∀ l : Launch, Met l y [Cond.code y cc nL rt] (rb_rm k) (va_Pc av (rb_W G h)) (rb_post G post) 0 0 (rb_AD G)
def rb_RT (Z : rb_Z) (G : rb_G) (rt : Option FieldType) (post : Option Value → rb_H → Prop) : Prop := match Z with
  | (p, l, e, R, s, m, args, below, meth, c, A, cells, slots, Q) => Q = MQ below (rb_post G post) args s cells slots (rb_AD G) ∧ meth.sig.returnType = rt ∧ meth.locks = false ∧ A = rb_AD G
theorem rb_meth {G : rb_G} {k : Nat} {y : MethodName} {cc : ByteArray} {nL : Nat} {rt : Option FieldType} {av L : List Value} {h : rb_H} {post : Option Value → rb_H → Prop} (hy : plainName y.cls = true) (hn : (lg_sl av).length ≤ nL) (hL : rb_pr 0 L = lv_args 0 av)
    (body : ∀ Z, rb_CX Z G cc nL y.cls k → rb_RT Z G rt post → rb_WP Z G nL 0 L [] h) : rb_M G k y cc nL rt av h post := by
  intro l
  refine Met.ofW (cc := cc) (maxL := nL) (ret := rt) hy rfl ?_
  intro p e s m args below meth c s₁ B hml hv
  obtain ⟨rfl, hP, hsw⟩ := hv
  have hown : s.vm.findClass y.cls = some m.cls := findClass_of_methodNamed B.named
  have hl := lv_entry av (n := nL) hn
  rw [lg_entry_eq]
  have h1 := body (p, l, e, (headSpec [Cond.code y cc nL rt] (rb_rm k)).room, s, m, av.toArray, below, meth, c, rb_AD G, 0, 0, MQ below (rb_post G post) av.toArray s 0 0 (rb_AD G)) ⟨B.exec, B.bytes, hml, hown, hsw, fun _ h => h, fun _ _ h => h, Nat.le_refl _, Nat.le_refl _, Nat.le_refl _, Nat.le_refl _⟩ ⟨rfl, B.returns, B.notSynchronized, rfl⟩
  exact h1 s.heap [] _ hP va_S.rf (show lv_has _ _ _ by rw [hL]; exact hl)
theorem rb_blind {G : rb_G} {av : List Value} {h : rb_H} : FrameBlind (va_Pc av (rb_W G h)) := fun a U g mk q => ⟨q.1, q.2.1, rb_sw.same (u := U) (U := U.calling g mk a) (H := U.heap) rfl q.2.2⟩

theorem rb_iconst {Z : rb_Z} {G : rb_G} {cc : ByteArray} {nL : Nat} {own : String} {k pc : Nat} {L S : List Value} {h : rb_H} (X : rb_CX Z G cc nL own k) {n : Int} {v : Int32} (d : decode cc pc = .ok (.iconst n, 1)) (hv : Int32.ofInt n = v) (kk : rb_WP Z G nL (pc + 1) L (.int v :: S) h) : rb_WP Z G nL pc L (S) h := by
  obtain ⟨p, l, e, R, s, m, args, below, meth, c, A, cells, slots, Q⟩ := Z
  obtain ⟨hx, hb, hml, hown, hsw, hA, hA2, hf, hlo, hce, hso⟩ := X
  intro H locs ls hP hS hl
  exact lv_iconst hx hb d hv (kk H locs ls hP hS hl)
theorem rb_bipush {Z : rb_Z} {G : rb_G} {cc : ByteArray} {nL : Nat} {own : String} {k pc : Nat} {L S : List Value} {h : rb_H} (X : rb_CX Z G cc nL own k) {n : Int} {v : Int32} (d : decode cc pc = .ok (.bipush n, 2)) (hv : (Int8.ofInt n).toInt32 = v) (kk : rb_WP Z G nL (pc + 2) L (.int v :: S) h) : rb_WP Z G nL pc L (S) h := by
  obtain ⟨p, l, e, R, s, m, args, below, meth, c, A, cells, slots, Q⟩ := Z
  obtain ⟨hx, hb, hml, hown, hsw, hA, hA2, hf, hlo, hce, hso⟩ := X
  intro H locs ls hP hS hl
  exact lv_bipush hx hb d hv (kk H locs ls hP hS hl)
theorem rb_sipush {Z : rb_Z} {G : rb_G} {cc : ByteArray} {nL : Nat} {own : String} {k pc : Nat} {L S : List Value} {h : rb_H} (X : rb_CX Z G cc nL own k) {n : Int} {v : Int32} (d : decode cc pc = .ok (.sipush n, 3)) (hv : (Int16.ofInt n).toInt32 = v) (kk : rb_WP Z G nL (pc + 3) L (.int v :: S) h) : rb_WP Z G nL pc L (S) h := by
  obtain ⟨p, l, e, R, s, m, args, below, meth, c, A, cells, slots, Q⟩ := Z
  obtain ⟨hx, hb, hml, hown, hsw, hA, hA2, hf, hlo, hce, hso⟩ := X
  intro H locs ls hP hS hl
  exact lv_sipush hx hb d hv (kk H locs ls hP hS hl)
theorem rb_lconst {Z : rb_Z} {G : rb_G} {cc : ByteArray} {nL : Nat} {own : String} {k pc : Nat} {L S : List Value} {h : rb_H} (X : rb_CX Z G cc nL own k) {n : Fin 2} {v : Int64} (d : decode cc pc = .ok (.lconst n, 1)) (hv : Int64.ofNat (n : Nat) = v) (kk : rb_WP Z G nL (pc + 1) L (.long v :: S) h) : rb_WP Z G nL pc L (S) h := by
  obtain ⟨p, l, e, R, s, m, args, below, meth, c, A, cells, slots, Q⟩ := Z
  obtain ⟨hx, hb, hml, hown, hsw, hA, hA2, hf, hlo, hce, hso⟩ := X
  intro H locs ls hP hS hl
  exact lv_lconst hx hb d hv (kk H locs ls hP hS hl)
theorem rb_ldc {Z : rb_Z} {G : rb_G} {cc : ByteArray} {nL : Nat} {own : String} {k pc : Nat} {L S : List Value} {h : rb_H} (X : rb_CX Z G cc nL own k) {i : Nat} {v : Int32} (d : decode cc pc = .ok (.ldc i, 2)) (w : Cond.constant own i v ∈ lw_tbl) (kk : rb_WP Z G nL (pc + 2) L (.int v :: S) h) : rb_WP Z G nL pc L (S) h := by
  obtain ⟨p, l, e, R, s, m, args, below, meth, c, A, cells, slots, Q⟩ := Z
  obtain ⟨hx, hb, hml, hown, hsw, hA, hA2, hf, hlo, hce, hso⟩ := X
  intro H locs ls hP hS hl
  exact lv_ldc hx hb hown (hsw.1.use w rfl _) d (kk H locs ls hP hS hl)
theorem rb_ldcw {Z : rb_Z} {G : rb_G} {cc : ByteArray} {nL : Nat} {own : String} {k pc : Nat} {L S : List Value} {h : rb_H} (X : rb_CX Z G cc nL own k) {i : Nat} {v : Int32} (d : decode cc pc = .ok (.ldc_w i, 3)) (w : Cond.constant own i v ∈ lw_tbl) (kk : rb_WP Z G nL (pc + 3) L (.int v :: S) h) : rb_WP Z G nL pc L (S) h := by
  obtain ⟨p, l, e, R, s, m, args, below, meth, c, A, cells, slots, Q⟩ := Z
  obtain ⟨hx, hb, hml, hown, hsw, hA, hA2, hf, hlo, hce, hso⟩ := X
  intro H locs ls hP hS hl
  exact lv_ldcw hx hb hown (hsw.1.use w rfl _) d (kk H locs ls hP hS hl)
theorem rb_ldc2 {Z : rb_Z} {G : rb_G} {cc : ByteArray} {nL : Nat} {own : String} {k pc : Nat} {L S : List Value} {h : rb_H} (X : rb_CX Z G cc nL own k) {i : Nat} {v : Int64} (d : decode cc pc = .ok (.ldc2_w i, 3)) (w : Cond.constantLong own i v ∈ lw_tbl) (kk : rb_WP Z G nL (pc + 3) L (.long v :: S) h) : rb_WP Z G nL pc L (S) h := by
  obtain ⟨p, l, e, R, s, m, args, below, meth, c, A, cells, slots, Q⟩ := Z
  obtain ⟨hx, hb, hml, hown, hsw, hA, hA2, hf, hlo, hce, hso⟩ := X
  intro H locs ls hP hS hl
  exact lv_ldc2 hx hb hown (hsw.1.use w rfl _) d (kk H locs ls hP hS hl)
theorem rb_ldcS {Z : rb_Z} {G : rb_G} {cc : ByteArray} {nL : Nat} {own : String} {k pc : Nat} {L S : List Value} {h : rb_H} (X : rb_CX Z G cc nL own k) (i : Nat) {ix : Nat} (hi : i < 14) (hi2 : (rb_tx i).1 = own) (hi3 : (rb_tx i).2.1 = ix) (d : decode cc pc = .ok (.ldc ix, 2)) (kk : rb_WP Z G nL (pc + 2) L (.ref (G.2.2.2.1 i) :: S) h) : rb_WP Z G nL pc L (S) h := by
  obtain ⟨p, l, e, R, s, m, args, below, meth, c, A, cells, slots, Q⟩ := Z
  obtain ⟨hx, hb, hml, hown, hsw, hA, hA2, hf, hlo, hce, hso⟩ := X
  intro H locs ls hP hS hl
  exact va_ldcS (tx := (rb_tx i).2.2.1) hx hb hown (by rw [← hi2, ← hi3]; exact hsw.2.2.2.2.1 i hi) d (kk H locs ls hP hS hl)
theorem rb_iload_n {Z : rb_Z} {G : rb_G} {cc : ByteArray} {nL : Nat} {own : String} {k pc : Nat} {L S : List Value} {h : rb_H} (X : rb_CX Z G cc nL own k) {q : Fin 4} {i : Nat} {x : Int32} (d : decode cc pc = .ok (.iload_n q, 1)) (hi : (q : Nat) = i) (hL : L[i]? = some (.int x)) (kk : rb_WP Z G nL (pc + 1) L (.int x :: S) h) : rb_WP Z G nL pc L (S) h := by
  obtain ⟨p, l, e, R, s, m, args, below, meth, c, A, cells, slots, Q⟩ := Z
  obtain ⟨hx, hb, hml, hown, hsw, hA, hA2, hf, hlo, hce, hso⟩ := X
  intro H locs ls hP hS hl
  exact lv_iload_n hx hb d hi (rb_HL.at hl hL (by simp)) (kk H locs ls hP hS hl)
theorem rb_iload {Z : rb_Z} {G : rb_G} {cc : ByteArray} {nL : Nat} {own : String} {k pc : Nat} {L S : List Value} {h : rb_H} (X : rb_CX Z G cc nL own k) {i : Nat} {x : Int32} (d : decode cc pc = .ok (.iload i, 2)) (hL : L[i]? = some (.int x)) (kk : rb_WP Z G nL (pc + 2) L (.int x :: S) h) : rb_WP Z G nL pc L (S) h := by
  obtain ⟨p, l, e, R, s, m, args, below, meth, c, A, cells, slots, Q⟩ := Z
  obtain ⟨hx, hb, hml, hown, hsw, hA, hA2, hf, hlo, hce, hso⟩ := X
  intro H locs ls hP hS hl
  exact lv_iload hx hb d (rb_HL.at hl hL (by simp)) (kk H locs ls hP hS hl)
theorem rb_lload_n {Z : rb_Z} {G : rb_G} {cc : ByteArray} {nL : Nat} {own : String} {k pc : Nat} {L S : List Value} {h : rb_H} (X : rb_CX Z G cc nL own k) {q : Fin 4} {i : Nat} {x : Int64} (d : decode cc pc = .ok (.lload_n q, 1)) (hi : (q : Nat) = i) (hL : L[i]? = some (.long x)) (kk : rb_WP Z G nL (pc + 1) L (.long x :: S) h) : rb_WP Z G nL pc L (S) h := by
  obtain ⟨p, l, e, R, s, m, args, below, meth, c, A, cells, slots, Q⟩ := Z
  obtain ⟨hx, hb, hml, hown, hsw, hA, hA2, hf, hlo, hce, hso⟩ := X
  intro H locs ls hP hS hl
  exact lv_lload_n hx hb d hi (rb_HL.at hl hL (by simp)) (kk H locs ls hP hS hl)
theorem rb_lload {Z : rb_Z} {G : rb_G} {cc : ByteArray} {nL : Nat} {own : String} {k pc : Nat} {L S : List Value} {h : rb_H} (X : rb_CX Z G cc nL own k) {i : Nat} {x : Int64} (d : decode cc pc = .ok (.lload i, 2)) (hL : L[i]? = some (.long x)) (kk : rb_WP Z G nL (pc + 2) L (.long x :: S) h) : rb_WP Z G nL pc L (S) h := by
  obtain ⟨p, l, e, R, s, m, args, below, meth, c, A, cells, slots, Q⟩ := Z
  obtain ⟨hx, hb, hml, hown, hsw, hA, hA2, hf, hlo, hce, hso⟩ := X
  intro H locs ls hP hS hl
  exact lv_lload hx hb d (rb_HL.at hl hL (by simp)) (kk H locs ls hP hS hl)
theorem rb_aload_n {Z : rb_Z} {G : rb_G} {cc : ByteArray} {nL : Nat} {own : String} {k pc : Nat} {L S : List Value} {h : rb_H} (X : rb_CX Z G cc nL own k) {q : Fin 4} {i : Nat} {x : Nat} (d : decode cc pc = .ok (.aload_n q, 1)) (hi : (q : Nat) = i) (hL : L[i]? = some (.ref x)) (kk : rb_WP Z G nL (pc + 1) L (.ref x :: S) h) : rb_WP Z G nL pc L (S) h := by
  obtain ⟨p, l, e, R, s, m, args, below, meth, c, A, cells, slots, Q⟩ := Z
  obtain ⟨hx, hb, hml, hown, hsw, hA, hA2, hf, hlo, hce, hso⟩ := X
  intro H locs ls hP hS hl
  exact lv_aload_n hx hb d hi (rb_HL.at hl hL (by simp)) (kk H locs ls hP hS hl)
theorem rb_aload {Z : rb_Z} {G : rb_G} {cc : ByteArray} {nL : Nat} {own : String} {k pc : Nat} {L S : List Value} {h : rb_H} (X : rb_CX Z G cc nL own k) {i : Nat} {x : Nat} (d : decode cc pc = .ok (.aload i, 2)) (hL : L[i]? = some (.ref x)) (kk : rb_WP Z G nL (pc + 2) L (.ref x :: S) h) : rb_WP Z G nL pc L (S) h := by
  obtain ⟨p, l, e, R, s, m, args, below, meth, c, A, cells, slots, Q⟩ := Z
  obtain ⟨hx, hb, hml, hown, hsw, hA, hA2, hf, hlo, hce, hso⟩ := X
  intro H locs ls hP hS hl
  exact lv_aload hx hb d (rb_HL.at hl hL (by simp)) (kk H locs ls hP hS hl)
theorem rb_istore_n {Z : rb_Z} {G : rb_G} {cc : ByteArray} {nL : Nat} {own : String} {k pc : Nat} {L S : List Value} {h : rb_H} (X : rb_CX Z G cc nL own k) {q : Fin 4} {i : Nat} {x : Int32} {L2 : List Value} (d : decode cc pc = .ok (.istore_n q, 1)) (hi : (q : Nat) = i) (hn : i < nL) (ho : rb_ok1 L i = true) (h2 : L.set i (.int x) = L2) (kk : rb_WP Z G nL (pc + 1) L2 (S) h) : rb_WP Z G nL pc L (.int x :: S) h := by
  obtain ⟨p, l, e, R, s, m, args, below, meth, c, A, cells, slots, Q⟩ := Z
  obtain ⟨hx, hb, hml, hown, hsw, hA, hA2, hf, hlo, hce, hso⟩ := X
  intro H locs ls hP hS hl
  exact lv_istore_n hx hb d hi hl hn rfl (fun ls1 hl1 => kk H locs ls1 hP hS (h2 ▸ rb_HL.set1 ho hl1))
theorem rb_istore {Z : rb_Z} {G : rb_G} {cc : ByteArray} {nL : Nat} {own : String} {k pc : Nat} {L S : List Value} {h : rb_H} (X : rb_CX Z G cc nL own k) {i : Nat} {x : Int32} {L2 : List Value} (d : decode cc pc = .ok (.istore i, 2)) (hn : i < nL) (ho : rb_ok1 L i = true) (h2 : L.set i (.int x) = L2) (kk : rb_WP Z G nL (pc + 2) L2 (S) h) : rb_WP Z G nL pc L (.int x :: S) h := by
  obtain ⟨p, l, e, R, s, m, args, below, meth, c, A, cells, slots, Q⟩ := Z
  obtain ⟨hx, hb, hml, hown, hsw, hA, hA2, hf, hlo, hce, hso⟩ := X
  intro H locs ls hP hS hl
  exact lv_istore hx hb d hl hn rfl (fun ls1 hl1 => kk H locs ls1 hP hS (h2 ▸ rb_HL.set1 ho hl1))
theorem rb_astore_n {Z : rb_Z} {G : rb_G} {cc : ByteArray} {nL : Nat} {own : String} {k pc : Nat} {L S : List Value} {h : rb_H} (X : rb_CX Z G cc nL own k) {q : Fin 4} {i : Nat} {x : Nat} {L2 : List Value} (d : decode cc pc = .ok (.astore_n q, 1)) (hi : (q : Nat) = i) (hn : i < nL) (ho : rb_ok1 L i = true) (h2 : L.set i (.ref x) = L2) (kk : rb_WP Z G nL (pc + 1) L2 (S) h) : rb_WP Z G nL pc L (.ref x :: S) h := by
  obtain ⟨p, l, e, R, s, m, args, below, meth, c, A, cells, slots, Q⟩ := Z
  obtain ⟨hx, hb, hml, hown, hsw, hA, hA2, hf, hlo, hce, hso⟩ := X
  intro H locs ls hP hS hl
  exact lv_astore_n hx hb d hi hl hn rfl (fun ls1 hl1 => kk H locs ls1 hP hS (h2 ▸ rb_HL.set1 ho hl1))
theorem rb_astore {Z : rb_Z} {G : rb_G} {cc : ByteArray} {nL : Nat} {own : String} {k pc : Nat} {L S : List Value} {h : rb_H} (X : rb_CX Z G cc nL own k) {i : Nat} {x : Nat} {L2 : List Value} (d : decode cc pc = .ok (.astore i, 2)) (hn : i < nL) (ho : rb_ok1 L i = true) (h2 : L.set i (.ref x) = L2) (kk : rb_WP Z G nL (pc + 2) L2 (S) h) : rb_WP Z G nL pc L (.ref x :: S) h := by
  obtain ⟨p, l, e, R, s, m, args, below, meth, c, A, cells, slots, Q⟩ := Z
  obtain ⟨hx, hb, hml, hown, hsw, hA, hA2, hf, hlo, hce, hso⟩ := X
  intro H locs ls hP hS hl
  exact lv_astore hx hb d hl hn rfl (fun ls1 hl1 => kk H locs ls1 hP hS (h2 ▸ rb_HL.set1 ho hl1))
theorem rb_lstore_n {Z : rb_Z} {G : rb_G} {cc : ByteArray} {nL : Nat} {own : String} {k pc : Nat} {L S : List Value} {h : rb_H} (X : rb_CX Z G cc nL own k) {q : Fin 4} {i : Nat} {x : Int64} {L2 : List Value} (d : decode cc pc = .ok (.lstore_n q, 1)) (hi : (q : Nat) = i) (hn : i + 1 < nL) (ho : rb_ok1 L i = true) (h2 : (L.set i (.long x)).set (i + 1) .null = L2) (kk : rb_WP Z G nL (pc + 1) L2 (S) h) : rb_WP Z G nL pc L (.long x :: S) h := by
  obtain ⟨p, l, e, R, s, m, args, below, meth, c, A, cells, slots, Q⟩ := Z
  obtain ⟨hx, hb, hml, hown, hsw, hA, hA2, hf, hlo, hce, hso⟩ := X
  intro H locs ls hP hS hl
  exact lv_lstore_n hx hb d hi hl hn rfl (fun ls1 hl1 => kk H locs ls1 hP hS (h2 ▸ rb_HL.set2 ho hl1))
theorem rb_lstore {Z : rb_Z} {G : rb_G} {cc : ByteArray} {nL : Nat} {own : String} {k pc : Nat} {L S : List Value} {h : rb_H} (X : rb_CX Z G cc nL own k) {i : Nat} {x : Int64} {L2 : List Value} (d : decode cc pc = .ok (.lstore i, 2)) (hn : i + 1 < nL) (ho : rb_ok1 L i = true) (h2 : (L.set i (.long x)).set (i + 1) .null = L2) (kk : rb_WP Z G nL (pc + 2) L2 (S) h) : rb_WP Z G nL pc L (.long x :: S) h := by
  obtain ⟨p, l, e, R, s, m, args, below, meth, c, A, cells, slots, Q⟩ := Z
  obtain ⟨hx, hb, hml, hown, hsw, hA, hA2, hf, hlo, hce, hso⟩ := X
  intro H locs ls hP hS hl
  exact lv_lstore hx hb d hl hn rfl (fun ls1 hl1 => kk H locs ls1 hP hS (h2 ▸ rb_HL.set2 ho hl1))
theorem rb_iinc {Z : rb_Z} {G : rb_G} {cc : ByteArray} {nL : Nat} {own : String} {k pc : Nat} {L S : List Value} {h : rb_H} (X : rb_CX Z G cc nL own k) {i : Nat} {n : Int} {x v : Int32} {L2 : List Value} (d : decode cc pc = .ok (.iinc i n, 3)) (hL : L[i]? = some (.int x)) (hv : x + Int32.ofInt n = v) (hn : i < nL) (ho : rb_ok1 L i = true) (h2 : L.set i (.int v) = L2) (kk : rb_WP Z G nL (pc + 3) L2 (S) h) : rb_WP Z G nL pc L S h := by
  obtain ⟨p, l, e, R, s, m, args, below, meth, c, A, cells, slots, Q⟩ := Z
  obtain ⟨hx, hb, hml, hown, hsw, hA, hA2, hf, hlo, hce, hso⟩ := X
  intro H locs ls hP hS hl
  obtain ⟨q, hq⟩ := List.getElem?_of_mem ((rb_pr_mem L 0 (i, .int x)).mpr ⟨i, by simp, hL, by simp⟩)
  exact lv_iinc hx hb d hl hq hv hn rfl (fun ls1 hl1 => kk H locs ls1 hP hS (h2 ▸ rb_HL.set1 ho hl1))
theorem rb_iadd {Z : rb_Z} {G : rb_G} {cc : ByteArray} {nL : Nat} {own : String} {k pc : Nat} {L S : List Value} {h : rb_H} (X : rb_CX Z G cc nL own k) {x y : Int32} (d : decode cc pc = .ok (.iadd, 1)) (kk : rb_WP Z G nL (pc + 1) L (.int (x + y) :: S) h) : rb_WP Z G nL pc L (.int y :: .int x :: S) h := by
  obtain ⟨p, l, e, R, s, m, args, below, meth, c, A, cells, slots, Q⟩ := Z
  obtain ⟨hx, hb, hml, hown, hsw, hA, hA2, hf, hlo, hce, hso⟩ := X
  intro H locs ls hP hS hl
  exact lv_iadd hx hb d (kk H locs ls hP hS hl)
theorem rb_isub {Z : rb_Z} {G : rb_G} {cc : ByteArray} {nL : Nat} {own : String} {k pc : Nat} {L S : List Value} {h : rb_H} (X : rb_CX Z G cc nL own k) {x y : Int32} (d : decode cc pc = .ok (.isub, 1)) (kk : rb_WP Z G nL (pc + 1) L (.int (x - y) :: S) h) : rb_WP Z G nL pc L (.int y :: .int x :: S) h := by
  obtain ⟨p, l, e, R, s, m, args, below, meth, c, A, cells, slots, Q⟩ := Z
  obtain ⟨hx, hb, hml, hown, hsw, hA, hA2, hf, hlo, hce, hso⟩ := X
  intro H locs ls hP hS hl
  exact lv_isub hx hb d (kk H locs ls hP hS hl)
theorem rb_imul {Z : rb_Z} {G : rb_G} {cc : ByteArray} {nL : Nat} {own : String} {k pc : Nat} {L S : List Value} {h : rb_H} (X : rb_CX Z G cc nL own k) {x y : Int32} (d : decode cc pc = .ok (.imul, 1)) (kk : rb_WP Z G nL (pc + 1) L (.int (x * y) :: S) h) : rb_WP Z G nL pc L (.int y :: .int x :: S) h := by
  obtain ⟨p, l, e, R, s, m, args, below, meth, c, A, cells, slots, Q⟩ := Z
  obtain ⟨hx, hb, hml, hown, hsw, hA, hA2, hf, hlo, hce, hso⟩ := X
  intro H locs ls hP hS hl
  exact lv_imul hx hb d (kk H locs ls hP hS hl)
theorem rb_iand {Z : rb_Z} {G : rb_G} {cc : ByteArray} {nL : Nat} {own : String} {k pc : Nat} {L S : List Value} {h : rb_H} (X : rb_CX Z G cc nL own k) {x y : Int32} (d : decode cc pc = .ok (.iand, 1)) (kk : rb_WP Z G nL (pc + 1) L (.int (x &&& y) :: S) h) : rb_WP Z G nL pc L (.int y :: .int x :: S) h := by
  obtain ⟨p, l, e, R, s, m, args, below, meth, c, A, cells, slots, Q⟩ := Z
  obtain ⟨hx, hb, hml, hown, hsw, hA, hA2, hf, hlo, hce, hso⟩ := X
  intro H locs ls hP hS hl
  exact lv_iand hx hb d (kk H locs ls hP hS hl)
theorem rb_ior {Z : rb_Z} {G : rb_G} {cc : ByteArray} {nL : Nat} {own : String} {k pc : Nat} {L S : List Value} {h : rb_H} (X : rb_CX Z G cc nL own k) {x y : Int32} (d : decode cc pc = .ok (.ior, 1)) (kk : rb_WP Z G nL (pc + 1) L (.int (x ||| y) :: S) h) : rb_WP Z G nL pc L (.int y :: .int x :: S) h := by
  obtain ⟨p, l, e, R, s, m, args, below, meth, c, A, cells, slots, Q⟩ := Z
  obtain ⟨hx, hb, hml, hown, hsw, hA, hA2, hf, hlo, hce, hso⟩ := X
  intro H locs ls hP hS hl
  exact lv_ior hx hb d (kk H locs ls hP hS hl)
theorem rb_ixor {Z : rb_Z} {G : rb_G} {cc : ByteArray} {nL : Nat} {own : String} {k pc : Nat} {L S : List Value} {h : rb_H} (X : rb_CX Z G cc nL own k) {x y : Int32} (d : decode cc pc = .ok (.ixor, 1)) (kk : rb_WP Z G nL (pc + 1) L (.int (x ^^^ y) :: S) h) : rb_WP Z G nL pc L (.int y :: .int x :: S) h := by
  obtain ⟨p, l, e, R, s, m, args, below, meth, c, A, cells, slots, Q⟩ := Z
  obtain ⟨hx, hb, hml, hown, hsw, hA, hA2, hf, hlo, hce, hso⟩ := X
  intro H locs ls hP hS hl
  exact lv_ixor hx hb d (kk H locs ls hP hS hl)
theorem rb_ishl {Z : rb_Z} {G : rb_G} {cc : ByteArray} {nL : Nat} {own : String} {k pc : Nat} {L S : List Value} {h : rb_H} (X : rb_CX Z G cc nL own k) {x y : Int32} (d : decode cc pc = .ok (.ishl, 1)) (kk : rb_WP Z G nL (pc + 1) L (.int (x <<< (y &&& 31)) :: S) h) : rb_WP Z G nL pc L (.int y :: .int x :: S) h := by
  obtain ⟨p, l, e, R, s, m, args, below, meth, c, A, cells, slots, Q⟩ := Z
  obtain ⟨hx, hb, hml, hown, hsw, hA, hA2, hf, hlo, hce, hso⟩ := X
  intro H locs ls hP hS hl
  exact lv_ishl hx hb d (kk H locs ls hP hS hl)
theorem rb_ishr {Z : rb_Z} {G : rb_G} {cc : ByteArray} {nL : Nat} {own : String} {k pc : Nat} {L S : List Value} {h : rb_H} (X : rb_CX Z G cc nL own k) {x y : Int32} (d : decode cc pc = .ok (.ishr, 1)) (kk : rb_WP Z G nL (pc + 1) L (.int (x >>> (y &&& 31)) :: S) h) : rb_WP Z G nL pc L (.int y :: .int x :: S) h := by
  obtain ⟨p, l, e, R, s, m, args, below, meth, c, A, cells, slots, Q⟩ := Z
  obtain ⟨hx, hb, hml, hown, hsw, hA, hA2, hf, hlo, hce, hso⟩ := X
  intro H locs ls hP hS hl
  exact lv_ishr hx hb d (kk H locs ls hP hS hl)
theorem rb_idiv {Z : rb_Z} {G : rb_G} {cc : ByteArray} {nL : Nat} {own : String} {k pc : Nat} {L S : List Value} {h : rb_H} (X : rb_CX Z G cc nL own k) {x y : Int32} (d : decode cc pc = .ok (.idiv, 1)) (hne : ¬ y = 0) (kk : rb_WP Z G nL (pc + 1) L (.int (x / y) :: S) h) : rb_WP Z G nL pc L (.int y :: .int x :: S) h := by
  obtain ⟨p, l, e, R, s, m, args, below, meth, c, A, cells, slots, Q⟩ := Z
  obtain ⟨hx, hb, hml, hown, hsw, hA, hA2, hf, hlo, hce, hso⟩ := X
  intro H locs ls hP hS hl
  exact lv_idiv hx hb d hne (kk H locs ls hP hS hl)
theorem rb_irem {Z : rb_Z} {G : rb_G} {cc : ByteArray} {nL : Nat} {own : String} {k pc : Nat} {L S : List Value} {h : rb_H} (X : rb_CX Z G cc nL own k) {x y : Int32} (d : decode cc pc = .ok (.irem, 1)) (hne : ¬ y = 0) (kk : rb_WP Z G nL (pc + 1) L (.int (x - x / y * y) :: S) h) : rb_WP Z G nL pc L (.int y :: .int x :: S) h := by
  obtain ⟨p, l, e, R, s, m, args, below, meth, c, A, cells, slots, Q⟩ := Z
  obtain ⟨hx, hb, hml, hown, hsw, hA, hA2, hf, hlo, hce, hso⟩ := X
  intro H locs ls hP hS hl
  exact lv_irem hx hb d hne (kk H locs ls hP hS hl)
theorem rb_ladd {Z : rb_Z} {G : rb_G} {cc : ByteArray} {nL : Nat} {own : String} {k pc : Nat} {L S : List Value} {h : rb_H} (X : rb_CX Z G cc nL own k) {x y : Int64} (d : decode cc pc = .ok (.ladd, 1)) (kk : rb_WP Z G nL (pc + 1) L (.long (x + y) :: S) h) : rb_WP Z G nL pc L (.long y :: .long x :: S) h := by
  obtain ⟨p, l, e, R, s, m, args, below, meth, c, A, cells, slots, Q⟩ := Z
  obtain ⟨hx, hb, hml, hown, hsw, hA, hA2, hf, hlo, hce, hso⟩ := X
  intro H locs ls hP hS hl
  exact lv_ladd hx hb d (kk H locs ls hP hS hl)
theorem rb_lsub {Z : rb_Z} {G : rb_G} {cc : ByteArray} {nL : Nat} {own : String} {k pc : Nat} {L S : List Value} {h : rb_H} (X : rb_CX Z G cc nL own k) {x y : Int64} (d : decode cc pc = .ok (.lsub, 1)) (kk : rb_WP Z G nL (pc + 1) L (.long (x - y) :: S) h) : rb_WP Z G nL pc L (.long y :: .long x :: S) h := by
  obtain ⟨p, l, e, R, s, m, args, below, meth, c, A, cells, slots, Q⟩ := Z
  obtain ⟨hx, hb, hml, hown, hsw, hA, hA2, hf, hlo, hce, hso⟩ := X
  intro H locs ls hP hS hl
  exact lv_lsub hx hb d (kk H locs ls hP hS hl)
theorem rb_lmul {Z : rb_Z} {G : rb_G} {cc : ByteArray} {nL : Nat} {own : String} {k pc : Nat} {L S : List Value} {h : rb_H} (X : rb_CX Z G cc nL own k) {x y : Int64} (d : decode cc pc = .ok (.lmul, 1)) (kk : rb_WP Z G nL (pc + 1) L (.long (x * y) :: S) h) : rb_WP Z G nL pc L (.long y :: .long x :: S) h := by
  obtain ⟨p, l, e, R, s, m, args, below, meth, c, A, cells, slots, Q⟩ := Z
  obtain ⟨hx, hb, hml, hown, hsw, hA, hA2, hf, hlo, hce, hso⟩ := X
  intro H locs ls hP hS hl
  exact lv_lmul hx hb d (kk H locs ls hP hS hl)
theorem rb_land {Z : rb_Z} {G : rb_G} {cc : ByteArray} {nL : Nat} {own : String} {k pc : Nat} {L S : List Value} {h : rb_H} (X : rb_CX Z G cc nL own k) {x y : Int64} (d : decode cc pc = .ok (.land, 1)) (kk : rb_WP Z G nL (pc + 1) L (.long (x &&& y) :: S) h) : rb_WP Z G nL pc L (.long y :: .long x :: S) h := by
  obtain ⟨p, l, e, R, s, m, args, below, meth, c, A, cells, slots, Q⟩ := Z
  obtain ⟨hx, hb, hml, hown, hsw, hA, hA2, hf, hlo, hce, hso⟩ := X
  intro H locs ls hP hS hl
  exact lv_land hx hb d (kk H locs ls hP hS hl)
theorem rb_lor {Z : rb_Z} {G : rb_G} {cc : ByteArray} {nL : Nat} {own : String} {k pc : Nat} {L S : List Value} {h : rb_H} (X : rb_CX Z G cc nL own k) {x y : Int64} (d : decode cc pc = .ok (.lor, 1)) (kk : rb_WP Z G nL (pc + 1) L (.long (x ||| y) :: S) h) : rb_WP Z G nL pc L (.long y :: .long x :: S) h := by
  obtain ⟨p, l, e, R, s, m, args, below, meth, c, A, cells, slots, Q⟩ := Z
  obtain ⟨hx, hb, hml, hown, hsw, hA, hA2, hf, hlo, hce, hso⟩ := X
  intro H locs ls hP hS hl
  exact lv_lor hx hb d (kk H locs ls hP hS hl)
theorem rb_lcmp {Z : rb_Z} {G : rb_G} {cc : ByteArray} {nL : Nat} {own : String} {k pc : Nat} {L S : List Value} {h : rb_H} (X : rb_CX Z G cc nL own k) {x y : Int64} (d : decode cc pc = .ok (.lcmp, 1)) (kk : rb_WP Z G nL (pc + 1) L (.int (lg_cmp x y) :: S) h) : rb_WP Z G nL pc L (.long y :: .long x :: S) h := by
  obtain ⟨p, l, e, R, s, m, args, below, meth, c, A, cells, slots, Q⟩ := Z
  obtain ⟨hx, hb, hml, hown, hsw, hA, hA2, hf, hlo, hce, hso⟩ := X
  intro H locs ls hP hS hl
  exact W.lcmp hx hb d (kk H locs ls hP hS hl)
theorem rb_lshl {Z : rb_Z} {G : rb_G} {cc : ByteArray} {nL : Nat} {own : String} {k pc : Nat} {L S : List Value} {h : rb_H} (X : rb_CX Z G cc nL own k) {x : Int64} {y : Int32} (d : decode cc pc = .ok (.lshl, 1)) (kk : rb_WP Z G nL (pc + 1) L (.long (x <<< (y.toInt64 &&& 63)) :: S) h) : rb_WP Z G nL pc L (.int y :: .long x :: S) h := by
  obtain ⟨p, l, e, R, s, m, args, below, meth, c, A, cells, slots, Q⟩ := Z
  obtain ⟨hx, hb, hml, hown, hsw, hA, hA2, hf, hlo, hce, hso⟩ := X
  intro H locs ls hP hS hl
  exact lv_lshl hx hb d rfl (kk H locs ls hP hS hl)
theorem rb_iushr {Z : rb_Z} {G : rb_G} {cc : ByteArray} {nL : Nat} {own : String} {k pc : Nat} {L S : List Value} {h : rb_H} (X : rb_CX Z G cc nL own k) {x y : Int32} (d : decode cc pc = .ok (.iushr, 1)) (kk : rb_WP Z G nL (pc + 1) L (.int ((x.toUInt32 >>> (y.toUInt32 &&& Int32.toUInt32 31)).toInt32) :: S) h) : rb_WP Z G nL pc L (.int y :: .int x :: S) h := by
  obtain ⟨p, l, e, R, s, m, args, below, meth, c, A, cells, slots, Q⟩ := Z
  obtain ⟨hx, hb, hml, hown, hsw, hA, hA2, hf, hlo, hce, hso⟩ := X
  intro H locs ls hP hS hl
  exact lv_iushr hx hb d rfl (kk H locs ls hP hS hl)
theorem rb_i2l {Z : rb_Z} {G : rb_G} {cc : ByteArray} {nL : Nat} {own : String} {k pc : Nat} {L S : List Value} {h : rb_H} (X : rb_CX Z G cc nL own k) {x : Int32} (d : decode cc pc = .ok (.i2l, 1)) (kk : rb_WP Z G nL (pc + 1) L (.long (x.toInt64) :: S) h) : rb_WP Z G nL pc L (.int x :: S) h := by
  obtain ⟨p, l, e, R, s, m, args, below, meth, c, A, cells, slots, Q⟩ := Z
  obtain ⟨hx, hb, hml, hown, hsw, hA, hA2, hf, hlo, hce, hso⟩ := X
  intro H locs ls hP hS hl
  exact lv_i2l hx hb d rfl (kk H locs ls hP hS hl)
theorem rb_l2i {Z : rb_Z} {G : rb_G} {cc : ByteArray} {nL : Nat} {own : String} {k pc : Nat} {L S : List Value} {h : rb_H} (X : rb_CX Z G cc nL own k) {x : Int64} (d : decode cc pc = .ok (.l2i, 1)) (kk : rb_WP Z G nL (pc + 1) L (.int (x.toInt32) :: S) h) : rb_WP Z G nL pc L (.long x :: S) h := by
  obtain ⟨p, l, e, R, s, m, args, below, meth, c, A, cells, slots, Q⟩ := Z
  obtain ⟨hx, hb, hml, hown, hsw, hA, hA2, hf, hlo, hce, hso⟩ := X
  intro H locs ls hP hS hl
  exact lv_l2i hx hb d rfl (kk H locs ls hP hS hl)
theorem rb_i2b {Z : rb_Z} {G : rb_G} {cc : ByteArray} {nL : Nat} {own : String} {k pc : Nat} {L S : List Value} {h : rb_H} (X : rb_CX Z G cc nL own k) {x : Int32} (d : decode cc pc = .ok (.i2b, 1)) (kk : rb_WP Z G nL (pc + 1) L (.int (x.toInt8.toInt32) :: S) h) : rb_WP Z G nL pc L (.int x :: S) h := by
  obtain ⟨p, l, e, R, s, m, args, below, meth, c, A, cells, slots, Q⟩ := Z
  obtain ⟨hx, hb, hml, hown, hsw, hA, hA2, hf, hlo, hce, hso⟩ := X
  intro H locs ls hP hS hl
  exact lv_i2b hx hb d rfl (kk H locs ls hP hS hl)
theorem rb_i2s {Z : rb_Z} {G : rb_G} {cc : ByteArray} {nL : Nat} {own : String} {k pc : Nat} {L S : List Value} {h : rb_H} (X : rb_CX Z G cc nL own k) {x : Int32} (d : decode cc pc = .ok (.i2s, 1)) (kk : rb_WP Z G nL (pc + 1) L (.int (x.toInt16.toInt32) :: S) h) : rb_WP Z G nL pc L (.int x :: S) h := by
  obtain ⟨p, l, e, R, s, m, args, below, meth, c, A, cells, slots, Q⟩ := Z
  obtain ⟨hx, hb, hml, hown, hsw, hA, hA2, hf, hlo, hce, hso⟩ := X
  intro H locs ls hP hS hl
  exact lv_i2s hx hb d rfl (kk H locs ls hP hS hl)
theorem rb_i2c {Z : rb_Z} {G : rb_G} {cc : ByteArray} {nL : Nat} {own : String} {k pc : Nat} {L S : List Value} {h : rb_H} (X : rb_CX Z G cc nL own k) {x : Int32} (d : decode cc pc = .ok (.i2c, 1)) (kk : rb_WP Z G nL (pc + 1) L (.int ((x.toUInt32 % 65536).toInt32) :: S) h) : rb_WP Z G nL pc L (.int x :: S) h := by
  obtain ⟨p, l, e, R, s, m, args, below, meth, c, A, cells, slots, Q⟩ := Z
  obtain ⟨hx, hb, hml, hown, hsw, hA, hA2, hf, hlo, hce, hso⟩ := X
  intro H locs ls hP hS hl
  exact lv_i2c hx hb d rfl (kk H locs ls hP hS hl)
theorem rb_dup {Z : rb_Z} {G : rb_G} {cc : ByteArray} {nL : Nat} {own : String} {k pc : Nat} {L S : List Value} {h : rb_H} (X : rb_CX Z G cc nL own k) {v : Value} (d : decode cc pc = .ok (.dup, 1)) (hv : v.category = 1) (kk : rb_WP Z G nL (pc + 1) L (v :: v :: S) h) : rb_WP Z G nL pc L (v :: S) h := by
  obtain ⟨p, l, e, R, s, m, args, below, meth, c, A, cells, slots, Q⟩ := Z
  obtain ⟨hx, hb, hml, hown, hsw, hA, hA2, hf, hlo, hce, hso⟩ := X
  intro H locs ls hP hS hl
  exact lv_dup hx hb d hv (kk H locs ls hP hS hl)
theorem rb_pop {Z : rb_Z} {G : rb_G} {cc : ByteArray} {nL : Nat} {own : String} {k pc : Nat} {L S : List Value} {h : rb_H} (X : rb_CX Z G cc nL own k) {v : Value} (d : decode cc pc = .ok (.pop, 1)) (hv : v.category = 1) (kk : rb_WP Z G nL (pc + 1) L (S) h) : rb_WP Z G nL pc L (v :: S) h := by
  obtain ⟨p, l, e, R, s, m, args, below, meth, c, A, cells, slots, Q⟩ := Z
  obtain ⟨hx, hb, hml, hown, hsw, hA, hA2, hf, hlo, hce, hso⟩ := X
  intro H locs ls hP hS hl
  exact lv_pop hx hb d hv (kk H locs ls hP hS hl)
theorem rb_dup2 {Z : rb_Z} {G : rb_G} {cc : ByteArray} {nL : Nat} {own : String} {k pc : Nat} {L S : List Value} {h : rb_H} (X : rb_CX Z G cc nL own k) {v w : Value} (d : decode cc pc = .ok (.dup2, 1)) (hv : v.category = 1) (hw : w.category = 1) (kk : rb_WP Z G nL (pc + 1) L (v :: w :: v :: w :: S) h) : rb_WP Z G nL pc L (v :: w :: S) h := by
  obtain ⟨p, l, e, R, s, m, args, below, meth, c, A, cells, slots, Q⟩ := Z
  obtain ⟨hx, hb, hml, hown, hsw, hA, hA2, hf, hlo, hce, hso⟩ := X
  intro H locs ls hP hS hl
  exact lv_dup2_11 hx hb d hv hw (kk H locs ls hP hS hl)
theorem rb_if_eq {Z : rb_Z} {G : rb_G} {cc : ByteArray} {nL : Nat} {own : String} {k pc : Nat} {L S : List Value} {h : rb_H} (X : rb_CX Z G cc nL own k) {x : Int32} {off : Int} {tgt : Nat} (d : decode cc pc = .ok (.ifCond .eq off, 3)) (ht : (pc : Int) + off = (tgt : Int)) (kt : (x = 0) → rb_WP Z G nL tgt L S h) (kf : (¬ x = 0) → rb_WP Z G nL (pc + 3) L (S) h) : rb_WP Z G nL pc L (.int x :: S) h := by
  obtain ⟨p, l, e, R, s, m, args, below, meth, c, A, cells, slots, Q⟩ := Z
  obtain ⟨hx, hb, hml, hown, hsw, hA, hA2, hf, hlo, hce, hso⟩ := X
  intro H locs ls hP hS hl
  exact lv_if_eq hx hb d ht (fun q => kt q H locs ls hP hS hl) (fun q => kf q H locs ls hP hS hl)
theorem rb_icmp_eq {Z : rb_Z} {G : rb_G} {cc : ByteArray} {nL : Nat} {own : String} {k pc : Nat} {L S : List Value} {h : rb_H} (X : rb_CX Z G cc nL own k) {x y : Int32} {off : Int} {tgt : Nat} (d : decode cc pc = .ok (.if_icmp .eq off, 3)) (ht : (pc : Int) + off = (tgt : Int)) (kt : (x = y) → rb_WP Z G nL tgt L S h) (kf : (¬ x = y) → rb_WP Z G nL (pc + 3) L (S) h) : rb_WP Z G nL pc L (.int y :: .int x :: S) h := by
  obtain ⟨p, l, e, R, s, m, args, below, meth, c, A, cells, slots, Q⟩ := Z
  obtain ⟨hx, hb, hml, hown, hsw, hA, hA2, hf, hlo, hce, hso⟩ := X
  intro H locs ls hP hS hl
  exact lv_icmp_eq hx hb d ht (fun q => kt q H locs ls hP hS hl) (fun q => kf q H locs ls hP hS hl)
theorem rb_if_ne {Z : rb_Z} {G : rb_G} {cc : ByteArray} {nL : Nat} {own : String} {k pc : Nat} {L S : List Value} {h : rb_H} (X : rb_CX Z G cc nL own k) {x : Int32} {off : Int} {tgt : Nat} (d : decode cc pc = .ok (.ifCond .ne off, 3)) (ht : (pc : Int) + off = (tgt : Int)) (kt : (¬ x = 0) → rb_WP Z G nL tgt L S h) (kf : (x = 0) → rb_WP Z G nL (pc + 3) L (S) h) : rb_WP Z G nL pc L (.int x :: S) h := by
  obtain ⟨p, l, e, R, s, m, args, below, meth, c, A, cells, slots, Q⟩ := Z
  obtain ⟨hx, hb, hml, hown, hsw, hA, hA2, hf, hlo, hce, hso⟩ := X
  intro H locs ls hP hS hl
  exact lv_if_ne hx hb d ht (fun q => kt q H locs ls hP hS hl) (fun q => kf q H locs ls hP hS hl)
theorem rb_icmp_ne {Z : rb_Z} {G : rb_G} {cc : ByteArray} {nL : Nat} {own : String} {k pc : Nat} {L S : List Value} {h : rb_H} (X : rb_CX Z G cc nL own k) {x y : Int32} {off : Int} {tgt : Nat} (d : decode cc pc = .ok (.if_icmp .ne off, 3)) (ht : (pc : Int) + off = (tgt : Int)) (kt : (¬ x = y) → rb_WP Z G nL tgt L S h) (kf : (x = y) → rb_WP Z G nL (pc + 3) L (S) h) : rb_WP Z G nL pc L (.int y :: .int x :: S) h := by
  obtain ⟨p, l, e, R, s, m, args, below, meth, c, A, cells, slots, Q⟩ := Z
  obtain ⟨hx, hb, hml, hown, hsw, hA, hA2, hf, hlo, hce, hso⟩ := X
  intro H locs ls hP hS hl
  exact lv_icmp_ne hx hb d ht (fun q => kt q H locs ls hP hS hl) (fun q => kf q H locs ls hP hS hl)
theorem rb_if_lt {Z : rb_Z} {G : rb_G} {cc : ByteArray} {nL : Nat} {own : String} {k pc : Nat} {L S : List Value} {h : rb_H} (X : rb_CX Z G cc nL own k) {x : Int32} {off : Int} {tgt : Nat} (d : decode cc pc = .ok (.ifCond .lt off, 3)) (ht : (pc : Int) + off = (tgt : Int)) (kt : (x < 0) → rb_WP Z G nL tgt L S h) (kf : (¬ x < 0) → rb_WP Z G nL (pc + 3) L (S) h) : rb_WP Z G nL pc L (.int x :: S) h := by
  obtain ⟨p, l, e, R, s, m, args, below, meth, c, A, cells, slots, Q⟩ := Z
  obtain ⟨hx, hb, hml, hown, hsw, hA, hA2, hf, hlo, hce, hso⟩ := X
  intro H locs ls hP hS hl
  exact lv_if_lt hx hb d ht (fun q => kt q H locs ls hP hS hl) (fun q => kf q H locs ls hP hS hl)
theorem rb_icmp_lt {Z : rb_Z} {G : rb_G} {cc : ByteArray} {nL : Nat} {own : String} {k pc : Nat} {L S : List Value} {h : rb_H} (X : rb_CX Z G cc nL own k) {x y : Int32} {off : Int} {tgt : Nat} (d : decode cc pc = .ok (.if_icmp .lt off, 3)) (ht : (pc : Int) + off = (tgt : Int)) (kt : (x < y) → rb_WP Z G nL tgt L S h) (kf : (¬ x < y) → rb_WP Z G nL (pc + 3) L (S) h) : rb_WP Z G nL pc L (.int y :: .int x :: S) h := by
  obtain ⟨p, l, e, R, s, m, args, below, meth, c, A, cells, slots, Q⟩ := Z
  obtain ⟨hx, hb, hml, hown, hsw, hA, hA2, hf, hlo, hce, hso⟩ := X
  intro H locs ls hP hS hl
  exact lv_icmp_lt hx hb d ht (fun q => kt q H locs ls hP hS hl) (fun q => kf q H locs ls hP hS hl)
theorem rb_if_ge {Z : rb_Z} {G : rb_G} {cc : ByteArray} {nL : Nat} {own : String} {k pc : Nat} {L S : List Value} {h : rb_H} (X : rb_CX Z G cc nL own k) {x : Int32} {off : Int} {tgt : Nat} (d : decode cc pc = .ok (.ifCond .ge off, 3)) (ht : (pc : Int) + off = (tgt : Int)) (kt : (0 ≤ x) → rb_WP Z G nL tgt L S h) (kf : (¬ 0 ≤ x) → rb_WP Z G nL (pc + 3) L (S) h) : rb_WP Z G nL pc L (.int x :: S) h := by
  obtain ⟨p, l, e, R, s, m, args, below, meth, c, A, cells, slots, Q⟩ := Z
  obtain ⟨hx, hb, hml, hown, hsw, hA, hA2, hf, hlo, hce, hso⟩ := X
  intro H locs ls hP hS hl
  exact lv_if_ge hx hb d ht (fun q => kt q H locs ls hP hS hl) (fun q => kf q H locs ls hP hS hl)
theorem rb_icmp_ge {Z : rb_Z} {G : rb_G} {cc : ByteArray} {nL : Nat} {own : String} {k pc : Nat} {L S : List Value} {h : rb_H} (X : rb_CX Z G cc nL own k) {x y : Int32} {off : Int} {tgt : Nat} (d : decode cc pc = .ok (.if_icmp .ge off, 3)) (ht : (pc : Int) + off = (tgt : Int)) (kt : (y ≤ x) → rb_WP Z G nL tgt L S h) (kf : (¬ y ≤ x) → rb_WP Z G nL (pc + 3) L (S) h) : rb_WP Z G nL pc L (.int y :: .int x :: S) h := by
  obtain ⟨p, l, e, R, s, m, args, below, meth, c, A, cells, slots, Q⟩ := Z
  obtain ⟨hx, hb, hml, hown, hsw, hA, hA2, hf, hlo, hce, hso⟩ := X
  intro H locs ls hP hS hl
  exact lv_icmp_ge hx hb d ht (fun q => kt q H locs ls hP hS hl) (fun q => kf q H locs ls hP hS hl)
theorem rb_if_gt {Z : rb_Z} {G : rb_G} {cc : ByteArray} {nL : Nat} {own : String} {k pc : Nat} {L S : List Value} {h : rb_H} (X : rb_CX Z G cc nL own k) {x : Int32} {off : Int} {tgt : Nat} (d : decode cc pc = .ok (.ifCond .gt off, 3)) (ht : (pc : Int) + off = (tgt : Int)) (kt : (0 < x) → rb_WP Z G nL tgt L S h) (kf : (¬ 0 < x) → rb_WP Z G nL (pc + 3) L (S) h) : rb_WP Z G nL pc L (.int x :: S) h := by
  obtain ⟨p, l, e, R, s, m, args, below, meth, c, A, cells, slots, Q⟩ := Z
  obtain ⟨hx, hb, hml, hown, hsw, hA, hA2, hf, hlo, hce, hso⟩ := X
  intro H locs ls hP hS hl
  exact lv_if_gt hx hb d ht (fun q => kt q H locs ls hP hS hl) (fun q => kf q H locs ls hP hS hl)
theorem rb_icmp_gt {Z : rb_Z} {G : rb_G} {cc : ByteArray} {nL : Nat} {own : String} {k pc : Nat} {L S : List Value} {h : rb_H} (X : rb_CX Z G cc nL own k) {x y : Int32} {off : Int} {tgt : Nat} (d : decode cc pc = .ok (.if_icmp .gt off, 3)) (ht : (pc : Int) + off = (tgt : Int)) (kt : (y < x) → rb_WP Z G nL tgt L S h) (kf : (¬ y < x) → rb_WP Z G nL (pc + 3) L (S) h) : rb_WP Z G nL pc L (.int y :: .int x :: S) h := by
  obtain ⟨p, l, e, R, s, m, args, below, meth, c, A, cells, slots, Q⟩ := Z
  obtain ⟨hx, hb, hml, hown, hsw, hA, hA2, hf, hlo, hce, hso⟩ := X
  intro H locs ls hP hS hl
  exact lv_icmp_gt hx hb d ht (fun q => kt q H locs ls hP hS hl) (fun q => kf q H locs ls hP hS hl)
theorem rb_if_le {Z : rb_Z} {G : rb_G} {cc : ByteArray} {nL : Nat} {own : String} {k pc : Nat} {L S : List Value} {h : rb_H} (X : rb_CX Z G cc nL own k) {x : Int32} {off : Int} {tgt : Nat} (d : decode cc pc = .ok (.ifCond .le off, 3)) (ht : (pc : Int) + off = (tgt : Int)) (kt : (x ≤ 0) → rb_WP Z G nL tgt L S h) (kf : (¬ x ≤ 0) → rb_WP Z G nL (pc + 3) L (S) h) : rb_WP Z G nL pc L (.int x :: S) h := by
  obtain ⟨p, l, e, R, s, m, args, below, meth, c, A, cells, slots, Q⟩ := Z
  obtain ⟨hx, hb, hml, hown, hsw, hA, hA2, hf, hlo, hce, hso⟩ := X
  intro H locs ls hP hS hl
  exact lv_if_le hx hb d ht (fun q => kt q H locs ls hP hS hl) (fun q => kf q H locs ls hP hS hl)
theorem rb_icmp_le {Z : rb_Z} {G : rb_G} {cc : ByteArray} {nL : Nat} {own : String} {k pc : Nat} {L S : List Value} {h : rb_H} (X : rb_CX Z G cc nL own k) {x y : Int32} {off : Int} {tgt : Nat} (d : decode cc pc = .ok (.if_icmp .le off, 3)) (ht : (pc : Int) + off = (tgt : Int)) (kt : (x ≤ y) → rb_WP Z G nL tgt L S h) (kf : (¬ x ≤ y) → rb_WP Z G nL (pc + 3) L (S) h) : rb_WP Z G nL pc L (.int y :: .int x :: S) h := by
  obtain ⟨p, l, e, R, s, m, args, below, meth, c, A, cells, slots, Q⟩ := Z
  obtain ⟨hx, hb, hml, hown, hsw, hA, hA2, hf, hlo, hce, hso⟩ := X
  intro H locs ls hP hS hl
  exact lv_icmp_le hx hb d ht (fun q => kt q H locs ls hP hS hl) (fun q => kf q H locs ls hP hS hl)
theorem rb_goto {Z : rb_Z} {G : rb_G} {cc : ByteArray} {nL : Nat} {own : String} {k pc : Nat} {L S : List Value} {h : rb_H} (X : rb_CX Z G cc nL own k) {off : Int} {tgt : Nat} (d : decode cc pc = .ok (.goto off, 3)) (ht : (pc : Int) + off = (tgt : Int)) (kk : rb_WP Z G nL tgt L S h) : rb_WP Z G nL pc L (S) h := by
  obtain ⟨p, l, e, R, s, m, args, below, meth, c, A, cells, slots, Q⟩ := Z
  obtain ⟨hx, hb, hml, hown, hsw, hA, hA2, hf, hlo, hce, hso⟩ := X
  intro H locs ls hP hS hl
  exact lv_goto hx hb d ht (kk H locs ls hP hS hl)
theorem rb_tabOut {Z : rb_Z} {G : rb_G} {cc : ByteArray} {nL : Nat} {own : String} {k pc : Nat} {L S : List Value} {h : rb_H} (X : rb_CX Z G cc nL own k) {dflt lo hi : Int} {offs : Array Int} {len : Nat} {x : Int32} {tgt : Nat} (d : decode cc pc = .ok (.tableswitch dflt lo hi offs, len)) (hq : x.toInt < lo ∨ hi < x.toInt) (ht : (pc : Int) + dflt = (tgt : Int)) (kk : rb_WP Z G nL tgt L S h) : rb_WP Z G nL pc L (.int x :: S) h := by
  obtain ⟨p, l, e, R, s, m, args, below, meth, c, A, cells, slots, Q⟩ := Z
  obtain ⟨hx, hb, hml, hown, hsw, hA, hA2, hf, hlo, hce, hso⟩ := X
  intro H locs ls hP hS hl
  exact lv_tableOut hx hb d hq ht (kk H locs ls hP hS hl)
theorem rb_tabIn {Z : rb_Z} {G : rb_G} {cc : ByteArray} {nL : Nat} {own : String} {k pc : Nat} {L S : List Value} {h : rb_H} (X : rb_CX Z G cc nL own k) {dflt lo hi : Int} {offs : Array Int} {len : Nat} {x : Int32} {off : Int} {tgt : Nat} (d : decode cc pc = .ok (.tableswitch dflt lo hi offs, len)) (h1 : ¬ x.toInt < lo) (h2 : ¬ hi < x.toInt) (ho : offs[(x.toInt - lo).toNat]? = some off) (ht : (pc : Int) + off = (tgt : Int)) (kk : rb_WP Z G nL tgt L S h) : rb_WP Z G nL pc L (.int x :: S) h := by
  obtain ⟨p, l, e, R, s, m, args, below, meth, c, A, cells, slots, Q⟩ := Z
  obtain ⟨hx, hb, hml, hown, hsw, hA, hA2, hf, hlo, hce, hso⟩ := X
  intro H locs ls hP hS hl
  exact lv_tableIn hx hb d h1 h2 ho ht (kk H locs ls hP hS hl)
theorem rb_iret {Z : rb_Z} {G : rb_G} {cc : ByteArray} {nL : Nat} {own : String} {k pc : Nat} {L S : List Value} {h : rb_H} {post : Option Value → rb_H → Prop} {v : Int32} (X : rb_CX Z G cc nL own k) (Y : rb_RT Z G (some .int) post) (d : decode cc pc = .ok (.ireturn, 1)) (hp : post (some (.int v)) h) : rb_WP Z G nL pc L [.int v] h := by
  obtain ⟨p, l, e, R, s, m, args, below, meth, c, A, cells, slots, Q⟩ := Z
  obtain ⟨hx, hb, hml, hown, hsw, hA, hA2, hf, hlo, hce, hso⟩ := X
  obtain ⟨rfl, hr, hlk, rfl⟩ := Y
  intro H locs ls hP hS hl
  exact W.iret hx hb hr (fun t ht hW => ⟨⟨_, h, rfl, hp, by rw [ht]; exact hP⟩, hS.F ht⟩) hS.2.2 d hlk
theorem rb_lret {Z : rb_Z} {G : rb_G} {cc : ByteArray} {nL : Nat} {own : String} {k pc : Nat} {L S : List Value} {h : rb_H} {post : Option Value → rb_H → Prop} {v : Int64} (X : rb_CX Z G cc nL own k) (Y : rb_RT Z G (some .long) post) (d : decode cc pc = .ok (.lreturn, 1)) (hp : post (some (.long v)) h) : rb_WP Z G nL pc L [.long v] h := by
  obtain ⟨p, l, e, R, s, m, args, below, meth, c, A, cells, slots, Q⟩ := Z
  obtain ⟨hx, hb, hml, hown, hsw, hA, hA2, hf, hlo, hce, hso⟩ := X
  obtain ⟨rfl, hr, hlk, rfl⟩ := Y
  intro H locs ls hP hS hl
  exact W.lret hx hb hr (fun t ht hW => ⟨⟨_, h, rfl, hp, by rw [ht]; exact hP⟩, hS.F ht⟩) hS.2.2 d hlk
theorem rb_vret {Z : rb_Z} {G : rb_G} {cc : ByteArray} {nL : Nat} {own : String} {k pc : Nat} {L S : List Value} {h : rb_H} {post : Option Value → rb_H → Prop} (X : rb_CX Z G cc nL own k) (Y : rb_RT Z G none post) (d : decode cc pc = .ok (.return_, 1)) (hp : post none h) : rb_WP Z G nL pc L [] h := by
  obtain ⟨p, l, e, R, s, m, args, below, meth, c, A, cells, slots, Q⟩ := Z
  obtain ⟨hx, hb, hml, hown, hsw, hA, hA2, hf, hlo, hce, hso⟩ := X
  obtain ⟨rfl, hr, hlk, rfl⟩ := Y
  intro H locs ls hP hS hl
  exact W.vret hx hb hr (fun t ht hW => ⟨⟨_, h, rfl, hp, by rw [ht]; exact hP⟩, hS.F ht⟩) hS.2.2 d hlk
theorem rb_zret {Z : rb_Z} {G : rb_G} {cc : ByteArray} {nL : Nat} {own : String} {k pc : Nat} {L S : List Value} {h : rb_H} {post : Option Value → rb_H → Prop} {v : Int32} {ty : FieldType} (X : rb_CX Z G cc nL own k) (Y : rb_RT Z G (some ty) post) (d : decode cc pc = .ok (.ireturn, 1)) (hn : narrow ty (.int v) = .int v) (hp : post (some (.int v)) h) : rb_WP Z G nL pc L [.int v] h := by
  obtain ⟨p, l, e, R, s, m, args, below, meth, c, A, cells, slots, Q⟩ := Z
  obtain ⟨hx, hb, hml, hown, hsw, hA, hA2, hf, hlo, hce, hso⟩ := X
  obtain ⟨rfl, hr, hlk, rfl⟩ := Y
  intro H locs ls hP hS hl
  exact W.zret hx hb hr hn (fun t ht hW => ⟨⟨_, h, rfl, hp, by rw [ht]; exact hP⟩, hS.F ht⟩) hS.2.2 d hlk
theorem rb_aret {Z : rb_Z} {G : rb_G} {cc : ByteArray} {nL : Nat} {own : String} {k pc : Nat} {L S : List Value} {h : rb_H} {post : Option Value → rb_H → Prop} {a : Nat} {C : String} (X : rb_CX Z G cc nL own k) (Y : rb_RT Z G (some (.object C)) post) (d : decode cc pc = .ok (.areturn, 1)) (hp : post (some (.ref a)) h) : rb_WP Z G nL pc L [.ref a] h := by
  obtain ⟨p, l, e, R, s, m, args, below, meth, c, A, cells, slots, Q⟩ := Z
  obtain ⟨hx, hb, hml, hown, hsw, hA, hA2, hf, hlo, hce, hso⟩ := X
  obtain ⟨rfl, hr, hlk, rfl⟩ := Y
  intro H locs ls hP hS hl
  exact W.aret hx hb hr (Or.inl ⟨_, rfl⟩) (Or.inr ⟨_, rfl⟩) (fun t ht hW => ⟨⟨_, h, rfl, hp, by rw [ht]; exact hP⟩, hS.F ht⟩) hS.2.2 d hlk
/-! fields, arrays, calls -/
theorem rb_cls : ∀ (ci : Nat) (q : vw_C), vwCl[ci]? = some q → (∀ w ∈ u_ws q.1 q.2.1 q.2.2, w ∈ lw_tbl ∧ rb_gd w = true) ∧ ∃ ty0 : Nat → FieldType, (∀ k, k < q.2.2 → parseFieldDescriptor (q.2.1 k).2.2.1 = some (ty0 k)) ∧ ∀ a, a < q.2.2 → ∀ b, b < q.2.2 → a ≠ b → (q.2.1 a).2.1 ≠ (q.2.1 b).2.1 := by
  intro ci q hq
  rcases ci with _ | _ | _ | _ | _ | ci
  · cases hq; exact ⟨by decide +kernel, tyX1, tyX1_ok, nmX1⟩
  · cases hq; exact ⟨by decide +kernel, tyX2, tyX2_ok, nmX2⟩
  · cases hq; exact ⟨by decide +kernel, tyX3, tyX3_ok, nmX3⟩
  · cases hq; exact ⟨by decide +kernel, tyX4, tyX4_ok, nmX4⟩
  · cases hq; exact ⟨by decide +kernel, tyX5, tyX5_ok, nmX5⟩
  · simp [vwCl] at hq
/-- a field's link in a pool: class number, field number -/
def rb_FL (own : String) (idx ci kf : Nat) : Prop := ∃ q : vw_C, vwCl[ci]? = some q ∧ kf < q.2.2 ∧ (Cond.fieldLink own idx (q.2.1 kf).1 (q.2.1 kf).2.1 (q.2.1 kf).2.2.1 ∈ lw_tbl ∨ ∃ host, Cond.fieldLinkNest own idx (q.2.1 kf).1 (q.2.1 kf).2.1 (q.2.1 kf).2.2.1 host ∈ lw_tbl)
theorem rb_nF : ∀ q ∈ rb_ids, q.2 = 0 → (vwCl[rb_ci q.1]?).map (fun x => x.2.2) = some (rb_fk q.1).length := by decide
theorem rb_arF : ∀ q ∈ rb_ids, ∀ j, j < 17 → q.2 = j + 1 → (rb_fk q.1).getD j 0 = 1 := by decide
theorem rb_idb : ∀ q ∈ rb_ids, q.2 < 17 := by decide
theorem rb_arK {o j : Nat} (ho : (o, j + 1) ∈ rb_ids) : (rb_fk o).getD j 0 = 1 := rb_arF _ ho j (by have := rb_idb _ ho; simp only at this; omega) rfl
theorem rb_fv_eq {G : rb_G} {h h' : rb_H} {o j : Nat} (hh : (rb_fk o).getD j 0 = 0 → h'.1 o j 0 = h.1 o j 0) : rb_fv G h' o j = rb_fv G h o j := by
  unfold rb_fv
  generalize (rb_fk o).getD j 0 = q at hh
  rcases q with _ | _ | q
  · simp [rb_fv0, hh rfl]
  · rfl
  · rfl
theorem rb_fl_eq {G : rb_G} {h h' : rb_H} {o : Nat} (hh : ∀ j, (rb_fk o).getD j 0 = 0 → h'.1 o j 0 = h.1 o j 0) : rb_fl G h' o = rb_fl G h o := by
  unfold rb_fl
  exact List.map_congr_left (fun j _ => rb_fv_eq (hh j))
theorem rb_ac_eq {G : rb_G} {h h' : rb_H} {o j n : Nat} (h1 : h'.1 o j = h.1 o j) (h2 : h'.2 o j = h.2 o j) : rb_ac G h' o j n = rb_ac G h o j n := by
  rcases n with _ | _ | n
  · simp [rb_ac, h1]
  · simp [rb_ac, h2]
  · rfl
theorem rb_fl_at {G : rb_G} {h : rb_H} {o kf ci : Nat} {q : vw_C} (ho : (o, 0) ∈ rb_ids) (hci : rb_ci o = ci) (hc : vwCl[ci]? = some q) (hk : kf < q.2.2) : kf < (rb_fk o).length ∧ (rb_fl G h o)[kf]? = some (rb_fv G h o kf) := by
  have h1 := rb_nF _ ho rfl
  rw [hci, hc] at h1
  have h2 : q.2.2 = (rb_fk o).length := by simpa using h1
  have h3 : kf < (rb_fk o).length := by omega
  exact ⟨h3, by simp [rb_fl, h3]⟩
def rb_u (h : rb_H) (o j i : Nat) (v : Int32) : rb_H := (va_up h.1 o (va_up (h.1 o) j (va_up (h.1 o j) i v)), h.2)
def rb_ul (h : rb_H) (o j i : Nat) (v : Int64) : rb_H := (h.1, va_up h.2 o (va_up (h.2 o) j (va_up (h.2 o j) i v)))
def rb_row (h : rb_H) (o j : Nat) (f : Nat → Int32) : rb_H := (va_up h.1 o (va_up (h.1 o) j f), h.2)
def rb_rowl (h : rb_H) (o j : Nat) (f : Nat → Int64) : rb_H := (h.1, va_up h.2 o (va_up (h.2 o) j f))
theorem rb_row_same {h : rb_H} {o j : Nat} {f : Nat → Int32} : (rb_row h o j f).1 o j = f := by simp [rb_row, va_up]
theorem rb_row_ne {h : rb_H} {o j o' j' : Nat} {f : Nat → Int32} (hn : ¬ (o' = o ∧ j' = j)) : (rb_row h o j f).1 o' j' = h.1 o' j' := by
  simp only [rb_row, va_up]
  by_cases h1 : o' = o
  · subst h1
    have : ¬ j' = j := fun e => hn ⟨rfl, e⟩
    simp [va_up, this]
  · simp [h1]
theorem rb_rowl_same {h : rb_H} {o j : Nat} {f : Nat → Int64} : (rb_rowl h o j f).2 o j = f := by simp [rb_rowl, va_up]
theorem rb_rowl_ne {h : rb_H} {o j o' j' : Nat} {f : Nat → Int64} (hn : ¬ (o' = o ∧ j' = j)) : (rb_rowl h o j f).2 o' j' = h.2 o' j' := by
  simp only [rb_rowl, va_up]
  by_cases h1 : o' = o
  · subst h1
    have : ¬ j' = j := fun e => hn ⟨rfl, e⟩
    simp [va_up, this]
  · simp [h1]
theorem rb_u_row {h : rb_H} {o j i : Nat} {v : Int32} : rb_u h o j i v = rb_row h o j (va_up (h.1 o j) i v) := rfl
theorem rb_ul_row {h : rb_H} {o j i : Nat} {v : Int64} : rb_ul h o j i v = rb_rowl h o j (va_up (h.2 o j) i v) := rfl
/-- an int row changes: which cell, which others stay -/
theorem rb_row_cl {G : rb_G} {h : rb_H} {o j : Nat} {f : Nat → Int32} {n : Nat} (ho : (o, j + 1) ∈ rb_ids) (hs : rb_ak o j = (0, n)) : rb_cl G (rb_row h o j f) o (j + 1) = .inl (G.2.1 0, n, .inl f) := by
  simp [rb_cl, rb_ac, hs, rb_row_same]
theorem rb_row_oth {G : rb_G} {h : rb_H} {o j : Nat} {f : Nat → Int32} (ho : (o, j + 1) ∈ rb_ids) : ∀ o' j', (o', j') ∈ rb_ids → (o', j') ≠ (o, j + 1) → rb_cl G (rb_row h o j f) o' j' = rb_cl G h o' j' := by
  intro o' j' hm hne
  rcases j' with _ | j'
  · show (Sum.inr (rb_ci o', rb_fl G (rb_row h o j f) o') : va_E) = Sum.inr (rb_ci o', rb_fl G h o')
    rw [rb_fl_eq (h := h)]
    intro j2 hj2
    have : ¬ (o' = o ∧ j2 = j) := by
      rintro ⟨rfl, rfl⟩
      rw [rb_arK ho] at hj2
      cases hj2
    rw [rb_row_ne this]
  · have : ¬ (o' = o ∧ j' = j) := by
      rintro ⟨rfl, rfl⟩
      exact hne rfl
    exact rb_ac_eq (rb_row_ne this) rfl
theorem rb_rowl_cl {G : rb_G} {h : rb_H} {o j : Nat} {f : Nat → Int64} {n : Nat} (ho : (o, j + 1) ∈ rb_ids) (hs : rb_ak o j = (1, n)) : rb_cl G (rb_rowl h o j f) o (j + 1) = .inl (G.2.1 1, n, .inr (.inl f)) := by
  simp [rb_cl, rb_ac, hs, rb_rowl_same]
theorem rb_rowl_oth {G : rb_G} {h : rb_H} {o j : Nat} {f : Nat → Int64} : ∀ o' j', (o', j') ∈ rb_ids → (o', j') ≠ (o, j + 1) → rb_cl G (rb_rowl h o j f) o' j' = rb_cl G h o' j' := by
  intro o' j' hm hne
  rcases j' with _ | j'
  · show (Sum.inr (rb_ci o', rb_fl G (rb_rowl h o j f) o') : va_E) = Sum.inr (rb_ci o', rb_fl G h o')
    rw [rb_fl_eq (h := h)]
    intro j2 hj2
    rfl
  · have : ¬ (o' = o ∧ j' = j) := by
      rintro ⟨rfl, rfl⟩
      exact hne rfl
    exact rb_ac_eq rfl (rb_rowl_ne this)
theorem rb_fld_cl {G : rb_G} {h : rb_H} {o kf : Nat} {v : Int32} (hk : kf < (rb_fk o).length) (h0 : (rb_fk o).getD kf 0 = 0) : rb_cl G (rb_u h o kf 0 v) o 0 = .inr (rb_ci o, (rb_fl G h o).set kf (.int v)) := by
  show (Sum.inr (rb_ci o, rb_fl G (rb_u h o kf 0 v) o) : va_E) = _
  congr 2
  apply List.ext_getElem?
  intro i
  by_cases hi : i = kf
  · subst hi
    rw [List.getElem?_set_self (by simpa [rb_fl] using hk)]
    simp only [rb_fl, List.getElem?_map, List.getElem?_range hk, Option.map_some]
    unfold rb_fv
    rw [h0]
    simp [rb_fv0, rb_u, va_up]
  · rw [List.getElem?_set_ne (Ne.symm hi)]
    simp only [rb_fl, List.getElem?_map]
    by_cases hl : i < (rb_fk o).length
    · simp only [List.getElem?_range hl, Option.map_some]
      rw [rb_fv_eq (h := h)]
      intro _
      rw [rb_u_row, rb_row_ne (fun z => hi z.2)]
    · rw [List.getElem?_eq_none (by simpa using hl)]
      rfl
theorem rb_fld_oth {G : rb_G} {h : rb_H} {o kf : Nat} {v : Int32} (h0 : (rb_fk o).getD kf 0 = 0) : ∀ o' j', (o', j') ∈ rb_ids → (o', j') ≠ (o, 0) → rb_cl G (rb_u h o kf 0 v) o' j' = rb_cl G h o' j' := by
  intro o' j' hm hne
  rcases j' with _ | j'
  · show (Sum.inr (rb_ci o', rb_fl G (rb_u h o kf 0 v) o') : va_E) = Sum.inr (rb_ci o', rb_fl G h o')
    rw [rb_fl_eq (h := h)]
    intro j2 hj2
    have : ¬ (o' = o ∧ j2 = kf) := by
      rintro ⟨rfl, rfl⟩
      exact hne rfl
    rw [rb_u_row, rb_row_ne this]
  · have : ¬ (o' = o ∧ j' = kf) := by
      rintro ⟨rfl, rfl⟩
      rw [rb_arK hm] at h0
      cases h0
    exact rb_ac_eq (by rw [rb_u_row, rb_row_ne this]) rfl
section RB
variable {Z : rb_Z} {G : rb_G} {cc : ByteArray} {nL : Nat} {own : String} {k pc : Nat} {L S : List Value} {h : rb_H}
theorem rb_get (X : rb_CX Z G cc nL own k) {o ci kf idx : Nat} {v : Value} (f : rb_FL own idx ci kf) (ho : (o, 0) ∈ rb_ids) (hci : rb_ci o = ci) (hv : rb_fv G h o kf = v) (d : decode cc pc = .ok (.getfield idx, 3)) (kk : rb_WP Z G nL (pc + 3) L (v :: S) h) : rb_WP Z G nL pc L (.ref (rb_ad G o 0) :: S) h := by
  obtain ⟨p, l, e, R, s, m, args, below, meth, c, A, cells, slots, Q⟩ := Z
  obtain ⟨hx, hb, hml, hown, hsw, hA, hA2, hf, hlo, hce, hso⟩ := X
  intro H locs ls hP hS hl
  obtain ⟨q, hc, hk, hlk⟩ := f
  obtain ⟨hw, -⟩ := rb_cls ci q hc
  obtain ⟨n, -, hq⟩ := rb_at (G := G) (h := h) ho
  have hts : ∀ w ∈ u_ws q.1 q.2.1 q.2.2, w.before args s = true := fun w h => hsw.1.use (hw w h).1 (hw w h).2 _
  obtain ⟨-, hfs⟩ := rb_fl_at (G := G) (h := h) ho hci hc hk
  rw [hv] at hfs
  have hq2 : (rb_cw G h)[n]? = some (rb_ad G o 0, .inr (ci, rb_fl G h o)) := by rw [hq]; simp [rb_cl, hci]
  rcases hlk with hlk | ⟨host, hlk⟩
  · exact va_get hx hb hts (fun _ h => h) hown hsw.2.1 hP n hq2 hc kf hk (hsw.1.use hlk rfl _) (fun _ h => h) hfs d (kk H locs ls hP hS hl)
  · exact va_getN hx hb hts (fun _ h => h) hown hsw.2.1 hP n hq2 hc kf hk (hsw.1.use hlk rfl _) (fun _ h => h) hfs d (kk H locs ls hP hS hl)
/-- a field that may be written: not final, its type -/
def rb_FP (ci kf : Nat) (ty : FieldType) : Prop := ∃ q : vw_C, vwCl[ci]? = some q ∧ (q.2.1 kf).2.2.2 = false ∧ parseFieldDescriptor (q.2.1 kf).2.2.1 = some ty
theorem rb_put (X : rb_CX Z G cc nL own k) {o ci kf idx : Nat} {v : Int32} {ty : FieldType} (f : rb_FL own idx ci kf) (g : rb_FP ci kf ty) (ho : (o, 0) ∈ rb_ids) (hci : rb_ci o = ci) (h0 : (rb_fk o).getD kf 0 = 0) (hn : narrow ty (.int v) = .int v) (hft : fits ty (.int v) = true) (d : decode cc pc = .ok (.putfield idx, 3)) (kk : rb_WP Z G nL (pc + 3) L S (rb_u h o kf 0 v)) : rb_WP Z G nL pc L (.int v :: .ref (rb_ad G o 0) :: S) h := by
  obtain ⟨p, l, e, R, s, m, args, below, meth, c, A, cells, slots, Q⟩ := Z
  obtain ⟨hx, hb, hml, hown, hsw, hA, hA2, hf, hlo, hce, hso⟩ := X
  intro H locs ls hP hS hl
  obtain ⟨q, hc, hk, hlk⟩ := f
  obtain ⟨q', hc', hfin, hpd⟩ := g
  cases hc.symm.trans hc'
  obtain ⟨hw, ty0, hty, hnm⟩ := rb_cls ci q hc
  obtain ⟨n, hn1, hq⟩ := rb_at (G := G) (h := h) ho
  have hts : ∀ w ∈ u_ws q.1 q.2.1 q.2.2, w.before args s = true := fun w h => hsw.1.use (hw w h).1 (hw w h).2 _
  obtain ⟨hkl, hfs⟩ := rb_fl_at (G := G) (h := h) ho hci hc hk
  have hq2 : (rb_cw G h)[n]? = some (rb_ad G o 0, .inr (ci, rb_fl G h o)) := by rw [hq]; simp [rb_cl, hci]
  have hD : va_D A (rb_cw G h) := rb_D hsw.2.2.1 hA
  have hset : (rb_cw G h).set n (rb_ad G o 0, .inr (ci, (rb_fl G h o).set kf (.int v))) = rb_cw G (rb_u h o kf 0 v) := rb_set hn1 (by rw [rb_fld_cl hkl h0, hci]) (rb_fld_oth h0)
  rcases hlk with hlk | ⟨host, hlk⟩
  · exact va_put hx hb hts (fun _ h => h) ty0 hty hnm hown hsw.2.1 hP hD hS n hq2 hc kf hk (hsw.1.use hlk rfl _) (fun _ h => h) hfin hpd hn hft (List.getElem?_eq_some_iff.mp hfs).1 d (fun H1 locs1 hP1 _ hS1 => kk H1 locs1 ls (hset ▸ hP1) hS1 hl)
  · exact va_putN hx hb hts (fun _ h => h) ty0 hty hnm hown hsw.2.1 hP hD hS n hq2 hc kf hk (hsw.1.use hlk rfl _) (fun _ h => h) hfin hpd hn hft (List.getElem?_eq_some_iff.mp hfs).1 d (fun H1 locs1 hP1 _ hS1 => kk H1 locs1 ls (hset ▸ hP1) hS1 hl)
theorem rb_cl_i {o j n : Nat} (hs : rb_ak o j = (0, n)) : rb_cl G h o (j + 1) = .inl (G.2.1 0, n, .inl (h.1 o j)) := by simp [rb_cl, rb_ac, hs]
theorem rb_cl_l {o j n : Nat} (hs : rb_ak o j = (1, n)) : rb_cl G h o (j + 1) = .inl (G.2.1 1, n, .inr (.inl (h.2 o j))) := by simp [rb_cl, rb_ac, hs]
theorem rb_iald (X : rb_CX Z G cc nL own k) {o j n : Nat} {i : Int32} (q : Nat) (ho : (o, j + 1) ∈ rb_ids) (hs : rb_ak o j = (0, n)) (hi : i = nI q) (hq : q < n) (d : decode cc pc = .ok (.iaload, 1)) (kk : rb_WP Z G nL (pc + 1) L (.int (h.1 o j q) :: S) h) (hn : n < 2 ^ 31 := by decide) : rb_WP Z G nL pc L (.int i :: .ref (rb_ad G o (j + 1)) :: S) h := by
  obtain ⟨p, l, e, R, s, m, args, below, meth, c, A, cells, slots, Q⟩ := Z
  obtain ⟨hx, hb, hml, hown, hsw, hA, hA2, hf, hlo, hce, hso⟩ := X
  intro H locs ls hP hS hl
  subst hi
  obtain ⟨a, ha1, ha⟩ := rb_at (G := G) (h := h) ho
  rw [rb_cl_i hs] at ha
  exact va_iald hx hb hsw.2.1 hP a 0 ha rfl (vp_in_nI hq hn) d (by rw [nI_clamp (by omega)]; exact kk H locs ls hP hS hl)
theorem rb_iast (X : rb_CX Z G cc nL own k) {o j n : Nat} {i v : Int32} (q : Nat) (ho : (o, j + 1) ∈ rb_ids) (hs : rb_ak o j = (0, n)) (hi : i = nI q) (hq : q < n) (d : decode cc pc = .ok (.iastore, 1)) (kk : rb_WP Z G nL (pc + 1) L S (rb_u h o j q v)) (hn : n < 2 ^ 31 := by decide) : rb_WP Z G nL pc L (.int v :: .int i :: .ref (rb_ad G o (j + 1)) :: S) h := by
  obtain ⟨p, l, e, R, s, m, args, below, meth, c, A, cells, slots, Q⟩ := Z
  obtain ⟨hx, hb, hml, hown, hsw, hA, hA2, hf, hlo, hce, hso⟩ := X
  intro H locs ls hP hS hl
  subst hi
  obtain ⟨a, ha1, ha⟩ := rb_at (G := G) (h := h) ho
  rw [rb_cl_i hs] at ha
  have hset : (rb_cw G h).set a (rb_ad G o (j + 1), .inl (G.2.1 0, n, .inl (upd (h.1 o j) (nI q).toNatClampNeg v))) = rb_cw G (rb_u h o j q v) := rb_set ha1 (by rw [rb_u_row, rb_row_cl ho hs, nI_clamp (by omega)]; rfl) (rb_row_oth ho)
  exact va_iast hx hb hsw.2.1 hP (rb_D hsw.2.2.1 hA) hS a 0 ha rfl (vp_in_nI hq hn) d (fun H1 locs1 hP1 _ hS1 => kk H1 locs1 ls (hset ▸ hP1) hS1 hl)
theorem rb_lald (X : rb_CX Z G cc nL own k) {o j n : Nat} {i : Int32} (q : Nat) (ho : (o, j + 1) ∈ rb_ids) (hs : rb_ak o j = (1, n)) (hi : i = nI q) (hq : q < n) (d : decode cc pc = .ok (.laload, 1)) (kk : rb_WP Z G nL (pc + 1) L (.long (h.2 o j q) :: S) h) (hn : n < 2 ^ 31 := by decide) : rb_WP Z G nL pc L (.int i :: .ref (rb_ad G o (j + 1)) :: S) h := by
  obtain ⟨p, l, e, R, s, m, args, below, meth, c, A, cells, slots, Q⟩ := Z
  obtain ⟨hx, hb, hml, hown, hsw, hA, hA2, hf, hlo, hce, hso⟩ := X
  intro H locs ls hP hS hl
  subst hi
  obtain ⟨a, ha1, ha⟩ := rb_at (G := G) (h := h) ho
  rw [rb_cl_l hs] at ha
  exact va_lald hx hb hsw.2.1 hP a 1 ha rfl (vp_in_nI hq hn) d (by rw [nI_clamp (by omega)]; exact kk H locs ls hP hS hl)
theorem rb_last (X : rb_CX Z G cc nL own k) {o j n : Nat} {i : Int32} {v : Int64} (q : Nat) (ho : (o, j + 1) ∈ rb_ids) (hs : rb_ak o j = (1, n)) (hi : i = nI q) (hq : q < n) (d : decode cc pc = .ok (.lastore, 1)) (kk : rb_WP Z G nL (pc + 1) L S (rb_ul h o j q v)) (hn : n < 2 ^ 31 := by decide) : rb_WP Z G nL pc L (.long v :: .int i :: .ref (rb_ad G o (j + 1)) :: S) h := by
  obtain ⟨p, l, e, R, s, m, args, below, meth, c, A, cells, slots, Q⟩ := Z
  obtain ⟨hx, hb, hml, hown, hsw, hA, hA2, hf, hlo, hce, hso⟩ := X
  intro H locs ls hP hS hl
  subst hi
  obtain ⟨a, ha1, ha⟩ := rb_at (G := G) (h := h) ho
  rw [rb_cl_l hs] at ha
  have hset : (rb_cw G h).set a (rb_ad G o (j + 1), .inl (G.2.1 1, n, .inr (.inl (vp_updL (h.2 o j) (nI q).toNatClampNeg v)))) = rb_cw G (rb_ul h o j q v) := rb_set ha1 (by rw [rb_ul_row, rb_rowl_cl ho hs, nI_clamp (by omega)]; rfl) rb_rowl_oth
  exact va_last hx hb hsw.2.1 hP (rb_D hsw.2.2.1 hA) hS a 1 ha rfl (vp_in_nI hq hn) d (fun H1 locs1 hP1 _ hS1 => kk H1 locs1 ls (hset ▸ hP1) hS1 hl)
theorem rb_aald (X : rb_CX Z G cc nL own k) {i : Int32} (q : Nat) (hi : i = nI q) (hq : q < 4) (d : decode cc pc = .ok (.aaload, 1)) (kk : rb_WP Z G nL (pc + 1) L (.ref (rb_ad G (4 + q) 0) :: S) h) : rb_WP Z G nL pc L (.int i :: .ref (rb_ad G 8 6) :: S) h := by
  obtain ⟨p, l, e, R, s, m, args, below, meth, c, A, cells, slots, Q⟩ := Z
  obtain ⟨hx, hb, hml, hown, hsw, hA, hA2, hf, hlo, hce, hso⟩ := X
  intro H locs ls hP hS hl
  subst hi
  obtain ⟨a, ha1, ha⟩ := rb_at (G := G) (h := h) (o := 8) (j := 6) (by decide)
  have hc : rb_cl G h 8 6 = .inl (G.2.1 2, 4, .inr (.inr (.inr (.inr (fun i => some (rb_ad G (4 + i) 0)))))) := by simp [rb_cl, rb_ac, rb_ak]
  rw [hc] at ha
  exact va_aldq hx hb hsw.2.1 hP a 2 ha rfl (vp_in_nI hq (by decide)) d (by rw [nI_clamp (by omega)]; exact kk H locs ls hP hS hl)
theorem rb_alen (X : rb_CX Z G cc nL own k) {o j n : Nat} (ho : (o, j + 1) ∈ rb_ids) (hs : rb_ak o j = (0, n)) (d : decode cc pc = .ok (.arraylength, 1)) (kk : rb_WP Z G nL (pc + 1) L (.int (nI n) :: S) h) : rb_WP Z G nL pc L (.ref (rb_ad G o (j + 1)) :: S) h := by
  obtain ⟨p, l, e, R, s, m, args, below, meth, c, A, cells, slots, Q⟩ := Z
  obtain ⟨hx, hb, hml, hown, hsw, hA, hA2, hf, hlo, hce, hso⟩ := X
  intro H locs ls hP hS hl
  obtain ⟨a, ha1, ha⟩ := rb_at (G := G) (h := h) ho
  rw [rb_cl_i hs] at ha
  exact va_alen hx hb hsw.2.1 hP a 0 ha rfl rfl d (kk H locs ls hP hS hl)
/-- two heaps that hold the same cells -/
theorem rb_cong {h' : rb_H} (he : ∀ o j, (o, j) ∈ rb_ids → ∀ (G : rb_G) (a : Nat) (H : Heap), va_at G.1 vwCl (a, rb_cl G h o j) H → va_at G.1 vwCl (a, rb_cl G h' o j) H) (kk : rb_WP Z G nL pc L S h') : rb_WP Z G nL pc L S h := by
  obtain ⟨p, l, e, R, s, m, args, below, meth, c, A, cells, slots, Q⟩ := Z
  intro H locs ls hP hS hl
  refine kk H locs ls (fun i q hq => ?_) hS hl
  simp only [rb_cw, List.getElem?_map, Option.map_eq_some_iff] at hq
  obtain ⟨⟨o, j⟩, h1, h2⟩ := hq
  subst h2
  exact he o j (List.mem_of_getElem? h1) G _ H (hP i _ (by simp [rb_cw, h1]))
theorem rb_arrV {c : ClassId} {n : Nat} {f g : Nat → Value} (hfg : ∀ i, i < n → f i = g i) : arrV c n f = arrV c n g := by
  unfold arrV
  congr 2
  funext i
  exact hfg i.1 i.2
/-- a row may be told by its places alone -/
theorem rb_rowC {o j n : Nat} {f g : Nat → Int32} (ho : (o, j + 1) ∈ rb_ids) (hs : rb_ak o j = (0, n)) (hfg : ∀ i, i < n → f i = g i) (kk : rb_WP Z G nL pc L S (rb_row h o j g)) : rb_WP Z G nL pc L S (rb_row h o j f) := by
  refine rb_cong (fun o' j' hm G a H hc => ?_) kk
  by_cases he : (o', j') = (o, j + 1)
  · cases he
    rw [rb_row_cl ho hs] at hc ⊢
    show H[a]? = some (vp_cell _ _)
    have h1 : H[a]? = some (vp_cell (G.2.1 0) (n, .inl f)) := hc
    rw [h1, vp_cell_i, vp_cell_i, rb_arrV (fun i hi => by rw [hfg i hi])]
  · rw [rb_row_oth ho o' j' hm he] at hc ⊢
    exact hc
theorem rb_rowlC {o j n : Nat} {f g : Nat → Int64} (ho : (o, j + 1) ∈ rb_ids) (hs : rb_ak o j = (1, n)) (hfg : ∀ i, i < n → f i = g i) (kk : rb_WP Z G nL pc L S (rb_rowl h o j g)) : rb_WP Z G nL pc L S (rb_rowl h o j f) := by
  refine rb_cong (fun o' j' hm G a H hc => ?_) kk
  by_cases he : (o', j') = (o, j + 1)
  · cases he
    rw [rb_rowl_cl ho hs] at hc ⊢
    show H[a]? = some (vp_cell _ _)
    have h1 : H[a]? = some (vp_cell (G.2.1 1) (n, .inr (.inl f))) := hc
    rw [h1, vp_cell_l, vp_cell_l, rb_arrV (fun i hi => by rw [hfg i hi])]
  · rw [rb_rowl_oth o' j' hm he] at hc ⊢
    exact hc
/-! calls -/
def rb_cV (y : MethodName) (bytes : ByteArray) (maxL : Nat) (ret : Option FieldType) (n : Nat) : Prop := Cond.instanceMethod y ∈ lw_tbl ∧ Cond.selects y.cls y y ∈ lw_tbl ∧ Cond.initialized y.cls ∈ lw_tbl ∧ Cond.code y bytes maxL ret ∈ lw_tbl ∧ (y.cls ≠ "java/lang/invoke/MethodHandle" ∧ y.cls ≠ "java/lang/invoke/VarHandle" ∧ (parseMethodDescriptor y.desc).map (fun d => d.parameters.length) = some n) ∧ maxL ≤ 25
def rb_cS (y : MethodName) (bytes : ByteArray) (maxL : Nat) (ret : Option FieldType) (n : Nat) : Prop := Cond.static y ∈ lw_tbl ∧ Cond.initialized y.cls ∈ lw_tbl ∧ Cond.code y bytes maxL ret ∈ lw_tbl ∧ (y.cls ≠ "java/lang/invoke/MethodHandle" ∧ y.cls ≠ "java/lang/invoke/VarHandle" ∧ (parseMethodDescriptor y.desc).map (fun d => d.parameters.length) = some n) ∧ maxL ≤ 25
def rb_cn (o : Nat) : String := if o < 3 then RX3 else if o = 3 then RX2 else if o < 8 then RX1 else if o = 8 then RX4 else RX5
theorem rb_cnO : ∀ q ∈ rb_ids, q.2 = 0 → (vwCl[rb_ci q.1]?).map (fun x => x.1) = some (rb_cn q.1) := by decide
theorem rb_CB {p : Program} {l : Launch} {e : Env} {R : Room} {s : State} {m : MethodId} {args : Array Value} {y : MethodName} {bytes : ByteArray} {maxL n kc idx : Nat} {ret : Option FieldType} (ht : rb_tb s) (h3 : Cond.initialized y.cls ∈ lw_tbl) (h4 : Cond.code y bytes maxL ret ∈ lw_tbl) (h5 : y.cls ≠ "java/lang/invoke/MethodHandle" ∧ y.cls ≠ "java/lang/invoke/VarHandle" ∧ (parseMethodDescriptor y.desc).map (fun d => d.parameters.length) = some n) (h6 : maxL ≤ 25) (lk : Cond.methodLink own idx y ∈ lw_tbl) (hkc : kc < k) (hf : k ≤ R.frames) (hlo : 44 * k ≤ R.locals) : CallB R s args own idx y bytes maxL ret [Cond.code y bytes maxL ret] (rb_rm kc) 0 0 n := by
  refine ⟨rfl, rfl, ?_, ?_, ?_, List.mem_cons_self, ht.use h4 rfl _, ht.use h3 rfl _, ⟨h5.1, h5.2.1⟩, fun sig hs => ?_, ht.use lk rfl _⟩
  · show kc + 1 ≤ R.frames; omega
  · show 8 + (maxL + 11) + 44 * kc ≤ R.locals; omega
  · intro w hw a' U hW
    rw [List.mem_singleton.mp hw]
    exact word_at hW (Or.inl rfl) (ht.use h4 rfl #[])
  · have h2 := h5.2.2
    rw [hs] at h2
    exact (Option.some.inj h2).symm
theorem rb_swH {A : Nat → Prop} {s : State} {H : Heap} {locs : List Loc} (hsw : rb_sw G s s.heap) (hA2 : ∀ a, a < s.heap.size → A a → rb_AD G a) (hS : va_S A s.heap H locs) : rb_sw G s H := hsw.kept (fun a h1 h2 => hS.2.1 a h1 (fun z => h2 (hA2 a h1 z)))
theorem rb_cont {p : Program} {l : Launch} {e : Env} {R : Room} {s : State} {m : MethodId} {args : Array Value} {below : List Frame} {meth : Method} {c : Code} {A : Nat → Prop} {cells slots : Nat} {Q : State → Prop} {H : Heap} {locs : List Loc} {ls : Array Slot} {S0 : List Value} {a : Array Value} {post : Option Value → rb_H → Prop} (hr : va_Run p l e R s m args below meth c H locs cells slots 0 0 (F0 m pc ls S0) S (rb_post G post a) (rb_AD G)) (hA : ∀ a, rb_AD G a → A a) (hS : va_S A s.heap H locs) (hl : rb_HL ls nL L)
    (kk : ∀ (r : Option Value) (h' : rb_H), post r h' → rb_WP (p, l, e, R, s, m, args, below, meth, c, A, cells, slots, Q) G nL (pc + 3) L (r.toList ++ S) h') : W p l e R s m args below meth c H locs cells slots Q (F0 m pc ls S0) := by
  intro T hT X
  obtain ⟨v, st₀, t, T', L1, h0, X', hL1, e1, e2, ⟨⟨r, h', hv, hp, hP'⟩, hz, hk⟩, st⟩ := hr T hT X
  cases hv
  rw [h0] at hz hk
  have hS' : va_S A s.heap T'.heap (locs ++ L1) := by
    refine ⟨Nat.le_trans hS.1 (by rw [e1]; exact hz), fun q h1 h2 => ?_, fun q hq => ?_⟩
    · rw [e1, hk q (Nat.lt_of_lt_of_le h1 hS.1) (fun z => h2 (hA q z))]
      exact hS.2.1 q h1 h2
    · rcases List.mem_append.mp hq with h | h
      · exact hS.2.2 q h
      · exact hA _ (hL1 q h)
  obtain ⟨t2, a1, b1⟩ := kk _ h' hp T'.heap (locs ++ L1) ls (by rw [e1]; exact hP') hS' hl T' rfl X'
  exact ⟨t2, st t2 a1, b1⟩
theorem rb_callV (X : rb_CX Z G cc nL own k) {y : MethodName} {bytes : ByteArray} {maxL n kc idx o : Nat} {ret : Option FieldType} {As S0 : List Value} {post : Option Value → rb_H → Prop} (c : rb_cV y bytes maxL ret n) (lk : Cond.methodLink own idx y ∈ lw_tbl) (hM : rb_M G kc y bytes maxL ret (.ref (rb_ad G o 0) :: As) h post) (hkc : kc < k) (ho : (o, 0) ∈ rb_ids) (hoc : rb_cn o = y.cls) (hn : As.length = n) (h0 : S0 = As.reverse ++ .ref (rb_ad G o 0) :: S) (hcat : (S.map fun v => v.category).sum ≤ 8) (d : decode cc pc = .ok (.invokevirtual idx, 3)) (kk : ∀ (r : Option Value) (h' : rb_H), post r h' → rb_WP Z G nL (pc + 3) L (r.toList ++ S) h') : rb_WP Z G nL pc L S0 h := by
  obtain ⟨p, l, e, R, s, m, args, below, meth, cd, A, cells, slots, Q⟩ := Z
  obtain ⟨hx, hb, hml, hown, hsw, hA, hA2, hf, hlo, hce, hso⟩ := X
  obtain ⟨c1, c2, c3, c4, c5, c6⟩ := c
  intro H locs ls hP hS hl
  subst h0
  obtain ⟨a, ha1, ha⟩ := rb_at (G := G) (h := h) ho
  have hci := rb_cnO _ ho rfl
  obtain ⟨q, hq1, hq2⟩ := Option.map_eq_some_iff.mp hci
  refine rb_cont (va_runV (Ts := []) (C := y.cls) ⟨hx, hb, hml, hown, fun _ h => absurd h List.not_mem_nil⟩ (hM l) ⟨rb_CB (l := l) (e := e) (p := p) (m := m) hsw.1 c3 c4 c5 c6 lk hkc hf hlo, hsw.1.use c1 rfl _, hsw.1.use c2 rfl _⟩ ⟨rb_blind, ?_, fun U hU hW => ⟨rfl, by rw [hU]; exact hP, by rw [hU]; exact (rb_swH hsw hA2 hS).warm hW⟩⟩ rfl hn hl.1 rfl (lv_room hcat) d ⟨by omega, by omega⟩) hA hS hl kk
  obtain ⟨cell, g1, g2, g3⟩ := va_recv hsw.2.1 hP hq1 ha
  exact ⟨cell, g1, g2, by rw [← hoc]; simp only at hq2; rw [← hq2]; exact g3⟩
theorem rb_callT (X : rb_CX Z G cc nL own k) {y : MethodName} {bytes : ByteArray} {maxL n kc idx i : Nat} {ret : Option FieldType} {As S0 : List Value} {post : Option Value → rb_H → Prop} (c : rb_cV y bytes maxL ret n) (lk : Cond.methodLink own idx y ∈ lw_tbl) (hM : rb_M G kc y bytes maxL ret (.ref (G.2.2.2.1 i) :: As) h post) (hkc : kc < k) (ho : i < 14) (hoc : y.cls = "java/lang/String") (hn : As.length = n) (h0 : S0 = As.reverse ++ .ref (G.2.2.2.1 i) :: S) (hcat : (S.map fun v => v.category).sum ≤ 8) (d : decode cc pc = .ok (.invokevirtual idx, 3)) (kk : ∀ (r : Option Value) (h' : rb_H), post r h' → rb_WP Z G nL (pc + 3) L (r.toList ++ S) h') : rb_WP Z G nL pc L S0 h := by
  obtain ⟨p, l, e, R, s, m, args, below, meth, cd, A, cells, slots, Q⟩ := Z
  obtain ⟨hx, hb, hml, hown, hsw, hA, hA2, hf, hlo, hce, hso⟩ := X
  obtain ⟨c1, c2, c3, c4, c5, c6⟩ := c
  intro H locs ls hP hS hl
  subst h0
  refine rb_cont (va_runV (Ts := []) (C := y.cls) ⟨hx, hb, hml, hown, fun _ h => absurd h List.not_mem_nil⟩ (hM l) ⟨rb_CB (l := l) (e := e) (p := p) (m := m) hsw.1 c3 c4 c5 c6 lk hkc hf hlo, hsw.1.use c1 rfl _, hsw.1.use c2 rfl _⟩ ⟨rb_blind, ?_, fun U hU hW => ⟨rfl, by rw [hU]; exact hP, by rw [hU]; exact (rb_swH hsw hA2 hS).warm hW⟩⟩ rfl hn hl.1 rfl (lv_room hcat) d ⟨by omega, by omega⟩) hA hS hl kk
  obtain ⟨cell, g1, g2, g3, -⟩ := ((rb_swH hsw hA2 hS).2.2.2.1.1 i ho).1
  exact ⟨cell, g1, g2, by rw [hoc]; exact g3⟩
theorem rb_callS (X : rb_CX Z G cc nL own k) {y : MethodName} {bytes : ByteArray} {maxL n kc idx : Nat} {ret : Option FieldType} {As S0 : List Value} {post : Option Value → rb_H → Prop} (c : rb_cS y bytes maxL ret n) (lk : Cond.methodLink own idx y ∈ lw_tbl) (hM : rb_M G kc y bytes maxL ret As h post) (hkc : kc < k) (hn : As.length = n) (h0 : S0 = As.reverse ++ S) (hcat : (S.map fun v => v.category).sum ≤ 8) (d : decode cc pc = .ok (.invokestatic idx, 3)) (kk : ∀ (r : Option Value) (h' : rb_H), post r h' → rb_WP Z G nL (pc + 3) L (r.toList ++ S) h') : rb_WP Z G nL pc L S0 h := by
  obtain ⟨p, l, e, R, s, m, args, below, meth, cd, A, cells, slots, Q⟩ := Z
  obtain ⟨hx, hb, hml, hown, hsw, hA, hA2, hf, hlo, hce, hso⟩ := X
  obtain ⟨c1, c3, c4, c5, c6⟩ := c
  intro H locs ls hP hS hl
  subst h0
  exact rb_cont (va_runS (Ts := []) ⟨hx, hb, hml, hown, fun _ h => absurd h List.not_mem_nil⟩ (hM l) ⟨rb_CB (l := l) (e := e) (p := p) (m := m) hsw.1 c3 c4 c5 c6 lk hkc hf hlo, hsw.1.use c1 rfl _⟩ ⟨rb_blind, fun U hU hW => ⟨rfl, by rw [hU]; exact hP, by rw [hU]; exact (rb_swH hsw hA2 hS).warm hW⟩⟩ rfl hn hl.1 rfl (lv_room hcat) d ⟨by omega, by omega⟩) hA hS hl kk
end RB
end
