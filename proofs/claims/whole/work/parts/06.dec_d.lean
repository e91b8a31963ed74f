theorem dX5_init_0 : decode cX5_init 0 = .ok (.aload_n 0, 1) := by decide +kernel
theorem dX5_init_1 : decode cX5_init 1 = .ok (.invokespecial 1, 3) := by decide +kernel
theorem dX5_init_4 : decode cX5_init 4 = .ok (.aload_n 0, 1) := by decide +kernel
theorem dX5_init_5 : decode cX5_init 5 = .ok (.bipush 77, 2) := by decide +kernel
theorem dX5_init_7 : decode cX5_init 7 = .ok (.newarray .int, 2) := by decide +kernel
theorem dX5_init_9 : decode cX5_init 9 = .ok (.putfield 7, 3) := by decide +kernel
theorem dX5_init_12 : decode cX5_init 12 = .ok (.aload_n 0, 1) := by decide +kernel
theorem dX5_init_13 : decode cX5_init 13 = .ok (.bipush 77, 2) := by decide +kernel
theorem dX5_init_15 : decode cX5_init 15 = .ok (.newarray .int, 2) := by decide +kernel
theorem dX5_init_17 : decode cX5_init 17 = .ok (.putfield 13, 3) := by decide +kernel
theorem dX5_init_20 : decode cX5_init 20 = .ok (.aload_n 0, 1) := by decide +kernel
theorem dX5_init_21 : decode cX5_init 21 = .ok (.bipush 77, 2) := by decide +kernel
theorem dX5_init_23 : decode cX5_init 23 = .ok (.newarray .int, 2) := by decide +kernel
theorem dX5_init_25 : decode cX5_init 25 = .ok (.putfield 16, 3) := by decide +kernel
theorem dX5_init_28 : decode cX5_init 28 = .ok (.aload_n 0, 1) := by decide +kernel
theorem dX5_init_29 : decode cX5_init 29 = .ok (.bipush 77, 2) := by decide +kernel
theorem dX5_init_31 : decode cX5_init 31 = .ok (.newarray .int, 2) := by decide +kernel
theorem dX5_init_33 : decode cX5_init 33 = .ok (.putfield 19, 3) := by decide +kernel
theorem dX5_init_36 : decode cX5_init 36 = .ok (.aload_n 0, 1) := by decide +kernel
theorem dX5_init_37 : decode cX5_init 37 = .ok (.bipush 7, 2) := by decide +kernel
theorem dX5_init_39 : decode cX5_init 39 = .ok (.newarray .int, 2) := by decide +kernel
theorem dX5_init_41 : decode cX5_init 41 = .ok (.putfield 22, 3) := by decide +kernel
theorem dX5_init_44 : decode cX5_init 44 = .ok (.aload_n 0, 1) := by decide +kernel
theorem dX5_init_45 : decode cX5_init 45 = .ok (.bipush 120, 2) := by decide +kernel
theorem dX5_init_47 : decode cX5_init 47 = .ok (.newarray .int, 2) := by decide +kernel
theorem dX5_init_49 : decode cX5_init 49 = .ok (.putfield 25, 3) := by decide +kernel
theorem dX5_init_52 : decode cX5_init 52 = .ok (.aload_n 0, 1) := by decide +kernel
theorem dX5_init_53 : decode cX5_init 53 = .ok (.iconst 4, 1) := by decide +kernel
theorem dX5_init_54 : decode cX5_init 54 = .ok (.newarray .int, 2) := by decide +kernel
theorem dX5_init_56 : decode cX5_init 56 = .ok (.putfield 28, 3) := by decide +kernel
theorem dX5_init_59 : decode cX5_init 59 = .ok (.aload_n 0, 1) := by decide +kernel
theorem dX5_init_60 : decode cX5_init 60 = .ok (.iconst 4, 1) := by decide +kernel
theorem dX5_init_61 : decode cX5_init 61 = .ok (.newarray .int, 2) := by decide +kernel
theorem dX5_init_63 : decode cX5_init 63 = .ok (.putfield 31, 3) := by decide +kernel
theorem dX5_init_66 : decode cX5_init 66 = .ok (.aload_n 0, 1) := by decide +kernel
theorem dX5_init_67 : decode cX5_init 67 = .ok (.sipush 160, 3) := by decide +kernel
theorem dX5_init_70 : decode cX5_init 70 = .ok (.newarray .long, 2) := by decide +kernel
theorem dX5_init_72 : decode cX5_init 72 = .ok (.putfield 34, 3) := by decide +kernel
theorem dX5_init_75 : decode cX5_init 75 = .ok (.aload_n 0, 1) := by decide +kernel
theorem dX5_init_76 : decode cX5_init 76 = .ok (.bipush 40, 2) := by decide +kernel
theorem dX5_init_78 : decode cX5_init 78 = .ok (.newarray .long, 2) := by decide +kernel
theorem dX5_init_80 : decode cX5_init 80 = .ok (.putfield 38, 3) := by decide +kernel
theorem dX5_init_83 : decode cX5_init 83 = .ok (.iconst 0, 1) := by decide +kernel
theorem dX5_init_84 : decode cX5_init 84 = .ok (.istore_n 1, 1) := by decide +kernel
theorem dX5_init_85 : decode cX5_init 85 = .ok (.iload_n 1, 1) := by decide +kernel
theorem dX5_init_86 : decode cX5_init 86 = .ok (.bipush 8, 2) := by decide +kernel
theorem dX5_init_88 : decode cX5_init 88 = .ok (.if_icmp .ge 43, 3) := by decide +kernel
theorem dX5_init_91 : decode cX5_init 91 = .ok (.aload_n 0, 1) := by decide +kernel
theorem dX5_init_92 : decode cX5_init 92 = .ok (.getfield 7, 3) := by decide +kernel
theorem dX5_init_95 : decode cX5_init 95 = .ok (.iload_n 1, 1) := by decide +kernel
theorem dX5_init_96 : decode cX5_init 96 = .ok (.iconst 0, 1) := by decide +kernel
theorem dX5_init_97 : decode cX5_init 97 = .ok (.invokestatic 41, 3) := by decide +kernel
theorem dX5_init_100 : decode cX5_init 100 = .ok (.iconst 1, 1) := by decide +kernel
theorem dX5_init_101 : decode cX5_init 101 = .ok (.iastore, 1) := by decide +kernel
theorem dX5_init_102 : decode cX5_init 102 = .ok (.aload_n 0, 1) := by decide +kernel
theorem dX5_init_103 : decode cX5_init 103 = .ok (.getfield 7, 3) := by decide +kernel
theorem dX5_init_106 : decode cX5_init 106 = .ok (.iload_n 1, 1) := by decide +kernel
theorem dX5_init_107 : decode cX5_init 107 = .ok (.iconst 1, 1) := by decide +kernel
theorem dX5_init_108 : decode cX5_init 108 = .ok (.invokestatic 41, 3) := by decide +kernel
theorem dX5_init_111 : decode cX5_init 111 = .ok (.bipush 50, 2) := by decide +kernel
theorem dX5_init_113 : decode cX5_init 113 = .ok (.iastore, 1) := by decide +kernel
theorem dX5_init_114 : decode cX5_init 114 = .ok (.aload_n 0, 1) := by decide +kernel
theorem dX5_init_115 : decode cX5_init 115 = .ok (.getfield 7, 3) := by decide +kernel
theorem dX5_init_118 : decode cX5_init 118 = .ok (.iload_n 1, 1) := by decide +kernel
theorem dX5_init_119 : decode cX5_init 119 = .ok (.iconst 2, 1) := by decide +kernel
theorem dX5_init_120 : decode cX5_init 120 = .ok (.invokestatic 41, 3) := by decide +kernel
theorem dX5_init_123 : decode cX5_init 123 = .ok (.iconst 3, 1) := by decide +kernel
theorem dX5_init_124 : decode cX5_init 124 = .ok (.iastore, 1) := by decide +kernel
theorem dX5_init_125 : decode cX5_init 125 = .ok (.iinc 1 1, 3) := by decide +kernel
theorem dX5_init_128 : decode cX5_init 128 = .ok (.goto (-43), 3) := by decide +kernel
theorem dX5_init_131 : decode cX5_init 131 = .ok (.return_, 1) := by decide +kernel
theorem dX5_in_0 : decode cX5_in 0 = .ok (.lload_n 0, 1) := by decide +kernel
theorem dX5_in_1 : decode cX5_in 1 = .ok (.lload_n 2, 1) := by decide +kernel
theorem dX5_in_2 : decode cX5_in 2 = .ok (.lcmp, 1) := by decide +kernel
theorem dX5_in_3 : decode cX5_in 3 = .ok (.ifCond .lt 14, 3) := by decide +kernel
theorem dX5_in_6 : decode cX5_in 6 = .ok (.lload_n 0, 1) := by decide +kernel
theorem dX5_in_7 : decode cX5_in 7 = .ok (.lload 4, 2) := by decide +kernel
theorem dX5_in_9 : decode cX5_in 9 = .ok (.lcmp, 1) := by decide +kernel
theorem dX5_in_10 : decode cX5_in 10 = .ok (.ifCond .gt 7, 3) := by decide +kernel
theorem dX5_in_13 : decode cX5_in 13 = .ok (.iconst 1, 1) := by decide +kernel
theorem dX5_in_14 : decode cX5_in 14 = .ok (.goto 4, 3) := by decide +kernel
theorem dX5_in_17 : decode cX5_in 17 = .ok (.iconst 0, 1) := by decide +kernel
theorem dX5_in_18 : decode cX5_in 18 = .ok (.ireturn, 1) := by decide +kernel
theorem dX5_finds_0 : decode cX5_finds 0 = .ok (.aload_n 0, 1) := by decide +kernel
theorem dX5_finds_1 : decode cX5_finds 1 = .ok (.getfield 22, 3) := by decide +kernel
theorem dX5_finds_4 : decode cX5_finds 4 = .ok (.ldc 45, 2) := by decide +kernel
theorem dX5_finds_6 : decode cX5_finds 6 = .ok (.iload_n 1, 1) := by decide +kernel
theorem dX5_finds_7 : decode cX5_finds 7 = .ok (.isub, 1) := by decide +kernel
theorem dX5_finds_8 : decode cX5_finds 8 = .ok (.dup2, 1) := by decide +kernel
theorem dX5_finds_9 : decode cX5_finds 9 = .ok (.iaload, 1) := by decide +kernel
theorem dX5_finds_10 : decode cX5_finds 10 = .ok (.iconst 1, 1) := by decide +kernel
theorem dX5_finds_11 : decode cX5_finds 11 = .ok (.iadd, 1) := by decide +kernel
theorem dX5_finds_12 : decode cX5_finds 12 = .ok (.iastore, 1) := by decide +kernel
theorem dX5_finds_13 : decode cX5_finds 13 = .ok (.iload_n 1, 1) := by decide +kernel
theorem dX5_finds_14 : decode cX5_finds 14 = .ok (.ireturn, 1) := by decide +kernel
theorem dX5_saves_0 : decode cX5_saves 0 = .ok (.iconst 0, 1) := by decide +kernel
theorem dX5_saves_1 : decode cX5_saves 1 = .ok (.istore_n 1, 1) := by decide +kernel
theorem dX5_saves_2 : decode cX5_saves 2 = .ok (.iload_n 1, 1) := by decide +kernel
theorem dX5_saves_3 : decode cX5_saves 3 = .ok (.bipush 77, 2) := by decide +kernel
theorem dX5_saves_5 : decode cX5_saves 5 = .ok (.if_icmp .ge 21, 3) := by decide +kernel
theorem dX5_saves_8 : decode cX5_saves 8 = .ok (.aload_n 0, 1) := by decide +kernel
theorem dX5_saves_9 : decode cX5_saves 9 = .ok (.getfield 16, 3) := by decide +kernel
theorem dX5_saves_12 : decode cX5_saves 12 = .ok (.iload_n 1, 1) := by decide +kernel
theorem dX5_saves_13 : decode cX5_saves 13 = .ok (.aload_n 0, 1) := by decide +kernel
theorem dX5_saves_14 : decode cX5_saves 14 = .ok (.getfield 7, 3) := by decide +kernel
theorem dX5_saves_17 : decode cX5_saves 17 = .ok (.iload_n 1, 1) := by decide +kernel
theorem dX5_saves_18 : decode cX5_saves 18 = .ok (.iaload, 1) := by decide +kernel
theorem dX5_saves_19 : decode cX5_saves 19 = .ok (.iastore, 1) := by decide +kernel
theorem dX5_saves_20 : decode cX5_saves 20 = .ok (.iinc 1 1, 3) := by decide +kernel
theorem dX5_saves_23 : decode cX5_saves 23 = .ok (.goto (-21), 3) := by decide +kernel
theorem dX5_saves_26 : decode cX5_saves 26 = .ok (.return_, 1) := by decide +kernel
theorem dX5_putsBack_0 : decode cX5_putsBack 0 = .ok (.iconst 0, 1) := by decide +kernel
theorem dX5_putsBack_1 : decode cX5_putsBack 1 = .ok (.istore_n 1, 1) := by decide +kernel
theorem dX5_putsBack_2 : decode cX5_putsBack 2 = .ok (.iload_n 1, 1) := by decide +kernel
theorem dX5_putsBack_3 : decode cX5_putsBack 3 = .ok (.bipush 77, 2) := by decide +kernel
theorem dX5_putsBack_5 : decode cX5_putsBack 5 = .ok (.if_icmp .ge 21, 3) := by decide +kernel
theorem dX5_putsBack_8 : decode cX5_putsBack 8 = .ok (.aload_n 0, 1) := by decide +kernel
theorem dX5_putsBack_9 : decode cX5_putsBack 9 = .ok (.getfield 7, 3) := by decide +kernel
theorem dX5_putsBack_12 : decode cX5_putsBack 12 = .ok (.iload_n 1, 1) := by decide +kernel
theorem dX5_putsBack_13 : decode cX5_putsBack 13 = .ok (.aload_n 0, 1) := by decide +kernel
theorem dX5_putsBack_14 : decode cX5_putsBack 14 = .ok (.getfield 16, 3) := by decide +kernel
theorem dX5_putsBack_17 : decode cX5_putsBack 17 = .ok (.iload_n 1, 1) := by decide +kernel
theorem dX5_putsBack_18 : decode cX5_putsBack 18 = .ok (.iaload, 1) := by decide +kernel
theorem dX5_putsBack_19 : decode cX5_putsBack 19 = .ok (.iastore, 1) := by decide +kernel
theorem dX5_putsBack_20 : decode cX5_putsBack 20 = .ok (.iinc 1 1, 3) := by decide +kernel
theorem dX5_putsBack_23 : decode cX5_putsBack 23 = .ok (.goto (-21), 3) := by decide +kernel
theorem dX5_putsBack_26 : decode cX5_putsBack 26 = .ok (.return_, 1) := by decide +kernel
theorem dX5_laysAside_0 : decode cX5_laysAside 0 = .ok (.iconst 0, 1) := by decide +kernel
theorem dX5_laysAside_1 : decode cX5_laysAside 1 = .ok (.istore_n 1, 1) := by decide +kernel
theorem dX5_laysAside_2 : decode cX5_laysAside 2 = .ok (.iload_n 1, 1) := by decide +kernel
theorem dX5_laysAside_3 : decode cX5_laysAside 3 = .ok (.bipush 77, 2) := by decide +kernel
theorem dX5_laysAside_5 : decode cX5_laysAside 5 = .ok (.if_icmp .ge 21, 3) := by decide +kernel
theorem dX5_laysAside_8 : decode cX5_laysAside 8 = .ok (.aload_n 0, 1) := by decide +kernel
theorem dX5_laysAside_9 : decode cX5_laysAside 9 = .ok (.getfield 19, 3) := by decide +kernel
theorem dX5_laysAside_12 : decode cX5_laysAside 12 = .ok (.iload_n 1, 1) := by decide +kernel
theorem dX5_laysAside_13 : decode cX5_laysAside 13 = .ok (.aload_n 0, 1) := by decide +kernel
theorem dX5_laysAside_14 : decode cX5_laysAside 14 = .ok (.getfield 7, 3) := by decide +kernel
theorem dX5_laysAside_17 : decode cX5_laysAside 17 = .ok (.iload_n 1, 1) := by decide +kernel
theorem dX5_laysAside_18 : decode cX5_laysAside 18 = .ok (.iaload, 1) := by decide +kernel
theorem dX5_laysAside_19 : decode cX5_laysAside 19 = .ok (.iastore, 1) := by decide +kernel
theorem dX5_laysAside_20 : decode cX5_laysAside 20 = .ok (.iinc 1 1, 3) := by decide +kernel
theorem dX5_laysAside_23 : decode cX5_laysAside 23 = .ok (.goto (-21), 3) := by decide +kernel
theorem dX5_laysAside_26 : decode cX5_laysAside 26 = .ok (.return_, 1) := by decide +kernel
theorem dX5_takesBack_0 : decode cX5_takesBack 0 = .ok (.iconst 0, 1) := by decide +kernel
theorem dX5_takesBack_1 : decode cX5_takesBack 1 = .ok (.istore_n 2, 1) := by decide +kernel
theorem dX5_takesBack_2 : decode cX5_takesBack 2 = .ok (.iload_n 2, 1) := by decide +kernel
theorem dX5_takesBack_3 : decode cX5_takesBack 3 = .ok (.bipush 77, 2) := by decide +kernel
theorem dX5_takesBack_5 : decode cX5_takesBack 5 = .ok (.if_icmp .ge 21, 3) := by decide +kernel
theorem dX5_takesBack_8 : decode cX5_takesBack 8 = .ok (.aload_n 0, 1) := by decide +kernel
theorem dX5_takesBack_9 : decode cX5_takesBack 9 = .ok (.getfield 7, 3) := by decide +kernel
theorem dX5_takesBack_12 : decode cX5_takesBack 12 = .ok (.iload_n 2, 1) := by decide +kernel
theorem dX5_takesBack_13 : decode cX5_takesBack 13 = .ok (.aload_n 0, 1) := by decide +kernel
theorem dX5_takesBack_14 : decode cX5_takesBack 14 = .ok (.getfield 19, 3) := by decide +kernel
theorem dX5_takesBack_17 : decode cX5_takesBack 17 = .ok (.iload_n 2, 1) := by decide +kernel
theorem dX5_takesBack_18 : decode cX5_takesBack 18 = .ok (.iaload, 1) := by decide +kernel
theorem dX5_takesBack_19 : decode cX5_takesBack 19 = .ok (.iastore, 1) := by decide +kernel
theorem dX5_takesBack_20 : decode cX5_takesBack 20 = .ok (.iinc 2 1, 3) := by decide +kernel
theorem dX5_takesBack_23 : decode cX5_takesBack 23 = .ok (.goto (-21), 3) := by decide +kernel
theorem dX5_takesBack_26 : decode cX5_takesBack 26 = .ok (.iload_n 1, 1) := by decide +kernel
theorem dX5_takesBack_27 : decode cX5_takesBack 27 = .ok (.ireturn, 1) := by decide +kernel
theorem dX5_becomes_0 : decode cX5_becomes 0 = .ok (.aload_n 0, 1) := by decide +kernel
theorem dX5_becomes_1 : decode cX5_becomes 1 = .ok (.getfield 7, 3) := by decide +kernel
theorem dX5_becomes_4 : decode cX5_becomes 4 = .ok (.iload_n 1, 1) := by decide +kernel
theorem dX5_becomes_5 : decode cX5_becomes 5 = .ok (.iaload, 1) := by decide +kernel
theorem dX5_becomes_6 : decode cX5_becomes 6 = .ok (.istore_n 3, 1) := by decide +kernel
theorem dX5_becomes_7 : decode cX5_becomes 7 = .ok (.aload_n 0, 1) := by decide +kernel
theorem dX5_becomes_8 : decode cX5_becomes 8 = .ok (.getfield 7, 3) := by decide +kernel
theorem dX5_becomes_11 : decode cX5_becomes 11 = .ok (.iload_n 1, 1) := by decide +kernel
theorem dX5_becomes_12 : decode cX5_becomes 12 = .ok (.iload_n 2, 1) := by decide +kernel
theorem dX5_becomes_13 : decode cX5_becomes 13 = .ok (.iastore, 1) := by decide +kernel
theorem dX5_becomes_14 : decode cX5_becomes 14 = .ok (.iload_n 3, 1) := by decide +kernel
theorem dX5_becomes_15 : decode cX5_becomes 15 = .ok (.ireturn, 1) := by decide +kernel
theorem dX5_isHouse_0 : decode cX5_isHouse 0 = .ok (.iload_n 0, 1) := by decide +kernel
theorem dX5_isHouse_1 : decode cX5_isHouse 1 = .ok (.i2l, 1) := by decide +kernel
theorem dX5_isHouse_2 : decode cX5_isHouse 2 = .ok (.lconst 0, 1) := by decide +kernel
theorem dX5_isHouse_3 : decode cX5_isHouse 3 = .ok (.ldc2_w 46, 3) := by decide +kernel
theorem dX5_isHouse_6 : decode cX5_isHouse 6 = .ok (.invokestatic 48, 3) := by decide +kernel
theorem dX5_isHouse_9 : decode cX5_isHouse 9 = .ok (.ireturn, 1) := by decide +kernel
theorem dX5_isRumour_0 : decode cX5_isRumour 0 = .ok (.iload_n 1, 1) := by decide +kernel
theorem dX5_isRumour_1 : decode cX5_isRumour 1 = .ok (.i2l, 1) := by decide +kernel
theorem dX5_isRumour_2 : decode cX5_isRumour 2 = .ok (.lconst 0, 1) := by decide +kernel
theorem dX5_isRumour_3 : decode cX5_isRumour 3 = .ok (.aload_n 0, 1) := by decide +kernel
theorem dX5_isRumour_4 : decode cX5_isRumour 4 = .ok (.getfield 7, 3) := by decide +kernel
theorem dX5_isRumour_7 : decode cX5_isRumour 7 = .ok (.iconst 0, 1) := by decide +kernel
theorem dX5_isRumour_8 : decode cX5_isRumour 8 = .ok (.iaload, 1) := by decide +kernel
theorem dX5_isRumour_9 : decode cX5_isRumour 9 = .ok (.iconst 1, 1) := by decide +kernel
theorem dX5_isRumour_10 : decode cX5_isRumour 10 = .ok (.isub, 1) := by decide +kernel
theorem dX5_isRumour_11 : decode cX5_isRumour 11 = .ok (.i2l, 1) := by decide +kernel
theorem dX5_isRumour_12 : decode cX5_isRumour 12 = .ok (.invokestatic 48, 3) := by decide +kernel
theorem dX5_isRumour_15 : decode cX5_isRumour 15 = .ok (.ireturn, 1) := by decide +kernel
theorem dX5_isKind_0 : decode cX5_isKind 0 = .ok (.iload_n 0, 1) := by decide +kernel
theorem dX5_isKind_1 : decode cX5_isKind 1 = .ok (.i2l, 1) := by decide +kernel
theorem dX5_isKind_2 : decode cX5_isKind 2 = .ok (.lconst 0, 1) := by decide +kernel
theorem dX5_isKind_3 : decode cX5_isKind 3 = .ok (.ldc2_w 52, 3) := by decide +kernel
theorem dX5_isKind_6 : decode cX5_isKind 6 = .ok (.invokestatic 48, 3) := by decide +kernel
theorem dX5_isKind_9 : decode cX5_isKind 9 = .ok (.ireturn, 1) := by decide +kernel
theorem dX5_isEvent_0 : decode cX5_isEvent 0 = .ok (.iload_n 0, 1) := by decide +kernel
theorem dX5_isEvent_1 : decode cX5_isEvent 1 = .ok (.i2l, 1) := by decide +kernel
theorem dX5_isEvent_2 : decode cX5_isEvent 2 = .ok (.lconst 0, 1) := by decide +kernel
theorem dX5_isEvent_3 : decode cX5_isEvent 3 = .ok (.ldc2_w 54, 3) := by decide +kernel
theorem dX5_isEvent_6 : decode cX5_isEvent 6 = .ok (.invokestatic 48, 3) := by decide +kernel
theorem dX5_isEvent_9 : decode cX5_isEvent 9 = .ok (.ireturn, 1) := by decide +kernel
theorem dX5_partOf_0 : decode cX5_partOf 0 = .ok (.iconst 3, 1) := by decide +kernel
theorem dX5_partOf_1 : decode cX5_partOf 1 = .ok (.iconst 3, 1) := by decide +kernel
theorem dX5_partOf_2 : decode cX5_partOf 2 = .ok (.iload_n 0, 1) := by decide +kernel
theorem dX5_partOf_3 : decode cX5_partOf 3 = .ok (.imul, 1) := by decide +kernel
theorem dX5_partOf_4 : decode cX5_partOf 4 = .ok (.iadd, 1) := by decide +kernel
theorem dX5_partOf_5 : decode cX5_partOf 5 = .ok (.iload_n 1, 1) := by decide +kernel
theorem dX5_partOf_6 : decode cX5_partOf 6 = .ok (.iadd, 1) := by decide +kernel
theorem dX5_partOf_7 : decode cX5_partOf 7 = .ok (.ireturn, 1) := by decide +kernel
theorem dX5_spotOf_0 : decode cX5_spotOf 0 = .ok (.bipush 27, 2) := by decide +kernel
theorem dX5_spotOf_2 : decode cX5_spotOf 2 = .ok (.iconst 5, 1) := by decide +kernel
theorem dX5_spotOf_3 : decode cX5_spotOf 3 = .ok (.iload_n 0, 1) := by decide +kernel
theorem dX5_spotOf_4 : decode cX5_spotOf 4 = .ok (.imul, 1) := by decide +kernel
theorem dX5_spotOf_5 : decode cX5_spotOf 5 = .ok (.iadd, 1) := by decide +kernel
theorem dX5_spotOf_6 : decode cX5_spotOf 6 = .ok (.iload_n 1, 1) := by decide +kernel
theorem dX5_spotOf_7 : decode cX5_spotOf 7 = .ok (.iadd, 1) := by decide +kernel
theorem dX5_spotOf_8 : decode cX5_spotOf 8 = .ok (.ireturn, 1) := by decide +kernel
theorem dX5_its_0 : decode cX5_its 0 = .ok (.aload_n 0, 1) := by decide +kernel
theorem dX5_its_1 : decode cX5_its 1 = .ok (.getfield 7, 3) := by decide +kernel
theorem dX5_its_4 : decode cX5_its 4 = .ok (.iload_n 1, 1) := by decide +kernel
theorem dX5_its_5 : decode cX5_its 5 = .ok (.iload_n 2, 1) := by decide +kernel
theorem dX5_its_6 : decode cX5_its 6 = .ok (.invokestatic 56, 3) := by decide +kernel
theorem dX5_its_9 : decode cX5_its 9 = .ok (.iaload, 1) := by decide +kernel
theorem dX5_its_10 : decode cX5_its 10 = .ok (.ireturn, 1) := by decide +kernel
theorem dX5_has_0 : decode cX5_has 0 = .ok (.aload_n 0, 1) := by decide +kernel
theorem dX5_has_1 : decode cX5_has 1 = .ok (.getfield 7, 3) := by decide +kernel
theorem dX5_has_4 : decode cX5_has 4 = .ok (.iload_n 1, 1) := by decide +kernel
theorem dX5_has_5 : decode cX5_has 5 = .ok (.iload_n 2, 1) := by decide +kernel
theorem dX5_has_6 : decode cX5_has 6 = .ok (.invokestatic 41, 3) := by decide +kernel
theorem dX5_has_9 : decode cX5_has 9 = .ok (.iaload, 1) := by decide +kernel
theorem dX5_has_10 : decode cX5_has 10 = .ok (.ireturn, 1) := by decide +kernel
theorem dX5_house_0 : decode cX5_house 0 = .ok (.iload_n 2, 1) := by decide +kernel
theorem dX5_house_1 : decode cX5_house 1 = .ok (.i2l, 1) := by decide +kernel
theorem dX5_house_2 : decode cX5_house 2 = .ok (.lconst 0, 1) := by decide +kernel
theorem dX5_house_3 : decode cX5_house 3 = .ok (.ldc2_w 59, 3) := by decide +kernel
theorem dX5_house_6 : decode cX5_house 6 = .ok (.invokestatic 48, 3) := by decide +kernel
theorem dX5_house_9 : decode cX5_house 9 = .ok (.ifCond .eq 40, 3) := by decide +kernel
theorem dX5_house_12 : decode cX5_house 12 = .ok (.iload_n 3, 1) := by decide +kernel
theorem dX5_house_13 : decode cX5_house 13 = .ok (.i2l, 1) := by decide +kernel
theorem dX5_house_14 : decode cX5_house 14 = .ok (.lconst 0, 1) := by decide +kernel
theorem dX5_house_15 : decode cX5_house 15 = .ok (.iload_n 2, 1) := by decide +kernel
theorem dX5_house_16 : decode cX5_house 16 = .ok (.ifCond .ne 9, 3) := by decide +kernel
theorem dX5_house_19 : decode cX5_house 19 = .ok (.ldc2_w 61, 3) := by decide +kernel
theorem dX5_house_22 : decode cX5_house 22 = .ok (.goto 17, 3) := by decide +kernel
theorem dX5_house_25 : decode cX5_house 25 = .ok (.iload_n 2, 1) := by decide +kernel
theorem dX5_house_26 : decode cX5_house 26 = .ok (.iconst 1, 1) := by decide +kernel
theorem dX5_house_27 : decode cX5_house 27 = .ok (.if_icmp .ne 9, 3) := by decide +kernel
theorem dX5_house_30 : decode cX5_house 30 = .ok (.ldc2_w 63, 3) := by decide +kernel
theorem dX5_house_33 : decode cX5_house 33 = .ok (.goto 6, 3) := by decide +kernel
theorem dX5_house_36 : decode cX5_house 36 = .ok (.ldc2_w 65, 3) := by decide +kernel
theorem dX5_house_39 : decode cX5_house 39 = .ok (.invokestatic 48, 3) := by decide +kernel
theorem dX5_house_42 : decode cX5_house 42 = .ok (.ifCond .eq 7, 3) := by decide +kernel
theorem dX5_house_45 : decode cX5_house 45 = .ok (.iconst 1, 1) := by decide +kernel
theorem dX5_house_46 : decode cX5_house 46 = .ok (.goto 4, 3) := by decide +kernel
theorem dX5_house_49 : decode cX5_house 49 = .ok (.iconst 0, 1) := by decide +kernel
theorem dX5_house_50 : decode cX5_house 50 = .ok (.istore 4, 2) := by decide +kernel
theorem dX5_house_52 : decode cX5_house 52 = .ok (.iload_n 1, 1) := by decide +kernel
theorem dX5_house_53 : decode cX5_house 53 = .ok (.invokestatic 67, 3) := by decide +kernel
theorem dX5_house_56 : decode cX5_house 56 = .ok (.ifCond .eq 21, 3) := by decide +kernel
theorem dX5_house_59 : decode cX5_house 59 = .ok (.iload 4, 2) := by decide +kernel
theorem dX5_house_61 : decode cX5_house 61 = .ok (.ifCond .eq 16, 3) := by decide +kernel
theorem dX5_house_64 : decode cX5_house 64 = .ok (.aload_n 0, 1) := by decide +kernel
theorem dX5_house_65 : decode cX5_house 65 = .ok (.iload_n 1, 1) := by decide +kernel
theorem dX5_house_66 : decode cX5_house 66 = .ok (.iload_n 2, 1) := by decide +kernel
theorem dX5_house_67 : decode cX5_house 67 = .ok (.invokestatic 41, 3) := by decide +kernel
theorem dX5_house_70 : decode cX5_house 70 = .ok (.iload_n 3, 1) := by decide +kernel
theorem dX5_house_71 : decode cX5_house 71 = .ok (.invokevirtual 71, 3) := by decide +kernel
theorem dX5_house_74 : decode cX5_house 74 = .ok (.goto 9, 3) := by decide +kernel
theorem dX5_house_77 : decode cX5_house 77 = .ok (.aload_n 0, 1) := by decide +kernel
theorem dX5_house_78 : decode cX5_house 78 = .ok (.ldc 45, 2) := by decide +kernel
theorem dX5_house_80 : decode cX5_house 80 = .ok (.invokevirtual 74, 3) := by decide +kernel
theorem dX5_house_83 : decode cX5_house 83 = .ok (.ireturn, 1) := by decide +kernel
theorem dX5_thoseAt_0 : decode cX5_thoseAt 0 = .ok (.iconst 0, 1) := by decide +kernel
theorem dX5_thoseAt_1 : decode cX5_thoseAt 1 = .ok (.istore_n 2, 1) := by decide +kernel
theorem dX5_thoseAt_2 : decode cX5_thoseAt 2 = .ok (.iconst 0, 1) := by decide +kernel
theorem dX5_thoseAt_3 : decode cX5_thoseAt 3 = .ok (.istore_n 3, 1) := by decide +kernel
theorem dX5_thoseAt_4 : decode cX5_thoseAt 4 = .ok (.iload_n 3, 1) := by decide +kernel
theorem dX5_thoseAt_5 : decode cX5_thoseAt 5 = .ok (.aload_n 0, 1) := by decide +kernel
theorem dX5_thoseAt_6 : decode cX5_thoseAt 6 = .ok (.getfield 7, 3) := by decide +kernel
theorem dX5_thoseAt_9 : decode cX5_thoseAt 9 = .ok (.iconst 0, 1) := by decide +kernel
theorem dX5_thoseAt_10 : decode cX5_thoseAt 10 = .ok (.iaload, 1) := by decide +kernel
theorem dX5_thoseAt_11 : decode cX5_thoseAt 11 = .ok (.if_icmp .ge 29, 3) := by decide +kernel
theorem dX5_thoseAt_14 : decode cX5_thoseAt 14 = .ok (.iload_n 2, 1) := by decide +kernel
theorem dX5_thoseAt_15 : decode cX5_thoseAt 15 = .ok (.aload_n 0, 1) := by decide +kernel
theorem dX5_thoseAt_16 : decode cX5_thoseAt 16 = .ok (.iload_n 3, 1) := by decide +kernel
theorem dX5_thoseAt_17 : decode cX5_thoseAt 17 = .ok (.iconst 4, 1) := by decide +kernel
theorem dX5_thoseAt_18 : decode cX5_thoseAt 18 = .ok (.invokevirtual 78, 3) := by decide +kernel
theorem dX5_thoseAt_21 : decode cX5_thoseAt 21 = .ok (.iload_n 1, 1) := by decide +kernel
theorem dX5_thoseAt_22 : decode cX5_thoseAt 22 = .ok (.if_icmp .ne 9, 3) := by decide +kernel
theorem dX5_thoseAt_25 : decode cX5_thoseAt 25 = .ok (.iconst 1, 1) := by decide +kernel
theorem dX5_thoseAt_26 : decode cX5_thoseAt 26 = .ok (.iload_n 3, 1) := by decide +kernel
theorem dX5_thoseAt_27 : decode cX5_thoseAt 27 = .ok (.ishl, 1) := by decide +kernel
theorem dX5_thoseAt_28 : decode cX5_thoseAt 28 = .ok (.goto 4, 3) := by decide +kernel
theorem dX5_thoseAt_31 : decode cX5_thoseAt 31 = .ok (.iconst 0, 1) := by decide +kernel
theorem dX5_thoseAt_32 : decode cX5_thoseAt 32 = .ok (.ior, 1) := by decide +kernel
theorem dX5_thoseAt_33 : decode cX5_thoseAt 33 = .ok (.istore_n 2, 1) := by decide +kernel
theorem dX5_thoseAt_34 : decode cX5_thoseAt 34 = .ok (.iinc 3 1, 3) := by decide +kernel
theorem dX5_thoseAt_37 : decode cX5_thoseAt 37 = .ok (.goto (-33), 3) := by decide +kernel
theorem dX5_thoseAt_40 : decode cX5_thoseAt 40 = .ok (.iload_n 2, 1) := by decide +kernel
theorem dX5_thoseAt_41 : decode cX5_thoseAt 41 = .ok (.ireturn, 1) := by decide +kernel
theorem dX5_ones_0 : decode cX5_ones 0 = .ok (.iconst 0, 1) := by decide +kernel
theorem dX5_ones_1 : decode cX5_ones 1 = .ok (.istore_n 1, 1) := by decide +kernel
theorem dX5_ones_2 : decode cX5_ones 2 = .ok (.iload_n 0, 1) := by decide +kernel
theorem dX5_ones_3 : decode cX5_ones 3 = .ok (.istore_n 2, 1) := by decide +kernel
theorem dX5_ones_4 : decode cX5_ones 4 = .ok (.iload_n 2, 1) := by decide +kernel
theorem dX5_ones_5 : decode cX5_ones 5 = .ok (.ifCond .eq 15, 3) := by decide +kernel
theorem dX5_ones_8 : decode cX5_ones 8 = .ok (.iinc 1 1, 3) := by decide +kernel
theorem dX5_ones_11 : decode cX5_ones 11 = .ok (.iload_n 2, 1) := by decide +kernel
theorem dX5_ones_12 : decode cX5_ones 12 = .ok (.iload_n 2, 1) := by decide +kernel
theorem dX5_ones_13 : decode cX5_ones 13 = .ok (.iconst 1, 1) := by decide +kernel
theorem dX5_ones_14 : decode cX5_ones 14 = .ok (.isub, 1) := by decide +kernel
theorem dX5_ones_15 : decode cX5_ones 15 = .ok (.iand, 1) := by decide +kernel
theorem dX5_ones_16 : decode cX5_ones 16 = .ok (.istore_n 2, 1) := by decide +kernel
theorem dX5_ones_17 : decode cX5_ones 17 = .ok (.goto (-13), 3) := by decide +kernel
theorem dX5_ones_20 : decode cX5_ones 20 = .ok (.iload_n 1, 1) := by decide +kernel
theorem dX5_ones_21 : decode cX5_ones 21 = .ok (.ireturn, 1) := by decide +kernel
theorem dX5_eventsAt_0 : decode cX5_eventsAt 0 = .ok (.iconst 0, 1) := by decide +kernel
theorem dX5_eventsAt_1 : decode cX5_eventsAt 1 = .ok (.istore_n 2, 1) := by decide +kernel
theorem dX5_eventsAt_2 : decode cX5_eventsAt 2 = .ok (.iconst 0, 1) := by decide +kernel
theorem dX5_eventsAt_3 : decode cX5_eventsAt 3 = .ok (.istore_n 3, 1) := by decide +kernel
theorem dX5_eventsAt_4 : decode cX5_eventsAt 4 = .ok (.iload_n 3, 1) := by decide +kernel
theorem dX5_eventsAt_5 : decode cX5_eventsAt 5 = .ok (.aload_n 0, 1) := by decide +kernel
theorem dX5_eventsAt_6 : decode cX5_eventsAt 6 = .ok (.getfield 7, 3) := by decide +kernel
theorem dX5_eventsAt_9 : decode cX5_eventsAt 9 = .ok (.iconst 0, 1) := by decide +kernel
theorem dX5_eventsAt_10 : decode cX5_eventsAt 10 = .ok (.iaload, 1) := by decide +kernel
theorem dX5_eventsAt_11 : decode cX5_eventsAt 11 = .ok (.if_icmp .ge 34, 3) := by decide +kernel
theorem dX5_eventsAt_14 : decode cX5_eventsAt 14 = .ok (.iload_n 2, 1) := by decide +kernel
theorem dX5_eventsAt_15 : decode cX5_eventsAt 15 = .ok (.aload_n 0, 1) := by decide +kernel
theorem dX5_eventsAt_16 : decode cX5_eventsAt 16 = .ok (.iload_n 3, 1) := by decide +kernel
theorem dX5_eventsAt_17 : decode cX5_eventsAt 17 = .ok (.iconst 4, 1) := by decide +kernel
theorem dX5_eventsAt_18 : decode cX5_eventsAt 18 = .ok (.invokevirtual 78, 3) := by decide +kernel
theorem dX5_eventsAt_21 : decode cX5_eventsAt 21 = .ok (.iload_n 1, 1) := by decide +kernel
theorem dX5_eventsAt_22 : decode cX5_eventsAt 22 = .ok (.if_icmp .ne 14, 3) := by decide +kernel
theorem dX5_eventsAt_25 : decode cX5_eventsAt 25 = .ok (.iconst 1, 1) := by decide +kernel
theorem dX5_eventsAt_26 : decode cX5_eventsAt 26 = .ok (.aload_n 0, 1) := by decide +kernel
theorem dX5_eventsAt_27 : decode cX5_eventsAt 27 = .ok (.iload_n 3, 1) := by decide +kernel
theorem dX5_eventsAt_28 : decode cX5_eventsAt 28 = .ok (.iconst 1, 1) := by decide +kernel
theorem dX5_eventsAt_29 : decode cX5_eventsAt 29 = .ok (.invokevirtual 78, 3) := by decide +kernel
theorem dX5_eventsAt_32 : decode cX5_eventsAt 32 = .ok (.ishl, 1) := by decide +kernel
theorem dX5_eventsAt_33 : decode cX5_eventsAt 33 = .ok (.goto 4, 3) := by decide +kernel
theorem dX5_eventsAt_36 : decode cX5_eventsAt 36 = .ok (.iconst 0, 1) := by decide +kernel
theorem dX5_eventsAt_37 : decode cX5_eventsAt 37 = .ok (.ior, 1) := by decide +kernel
theorem dX5_eventsAt_38 : decode cX5_eventsAt 38 = .ok (.istore_n 2, 1) := by decide +kernel
theorem dX5_eventsAt_39 : decode cX5_eventsAt 39 = .ok (.iinc 3 1, 3) := by decide +kernel
theorem dX5_eventsAt_42 : decode cX5_eventsAt 42 = .ok (.goto (-38), 3) := by decide +kernel
theorem dX5_eventsAt_45 : decode cX5_eventsAt 45 = .ok (.iload_n 2, 1) := by decide +kernel
theorem dX5_eventsAt_46 : decode cX5_eventsAt 46 = .ok (.ireturn, 1) := by decide +kernel
theorem dX5_eatenAt_0 : decode cX5_eatenAt 0 = .ok (.iconst 0, 1) := by decide +kernel
theorem dX5_eatenAt_1 : decode cX5_eatenAt 1 = .ok (.istore_n 2, 1) := by decide +kernel
theorem dX5_eatenAt_2 : decode cX5_eatenAt 2 = .ok (.iconst 0, 1) := by decide +kernel
theorem dX5_eatenAt_3 : decode cX5_eatenAt 3 = .ok (.istore_n 3, 1) := by decide +kernel
theorem dX5_eatenAt_4 : decode cX5_eatenAt 4 = .ok (.iload_n 3, 1) := by decide +kernel
theorem dX5_eatenAt_5 : decode cX5_eatenAt 5 = .ok (.aload_n 0, 1) := by decide +kernel
theorem dX5_eatenAt_6 : decode cX5_eatenAt 6 = .ok (.getfield 7, 3) := by decide +kernel
theorem dX5_eatenAt_9 : decode cX5_eatenAt 9 = .ok (.iconst 0, 1) := by decide +kernel
theorem dX5_eatenAt_10 : decode cX5_eatenAt 10 = .ok (.iaload, 1) := by decide +kernel
theorem dX5_eatenAt_11 : decode cX5_eatenAt 11 = .ok (.if_icmp .ge 31, 3) := by decide +kernel
theorem dX5_eatenAt_14 : decode cX5_eatenAt 14 = .ok (.iload_n 2, 1) := by decide +kernel
theorem dX5_eatenAt_15 : decode cX5_eatenAt 15 = .ok (.aload_n 0, 1) := by decide +kernel
theorem dX5_eatenAt_16 : decode cX5_eatenAt 16 = .ok (.iload_n 3, 1) := by decide +kernel
theorem dX5_eatenAt_17 : decode cX5_eatenAt 17 = .ok (.iconst 4, 1) := by decide +kernel
theorem dX5_eatenAt_18 : decode cX5_eatenAt 18 = .ok (.invokevirtual 78, 3) := by decide +kernel
theorem dX5_eatenAt_21 : decode cX5_eatenAt 21 = .ok (.iload_n 1, 1) := by decide +kernel
theorem dX5_eatenAt_22 : decode cX5_eatenAt 22 = .ok (.if_icmp .ne 11, 3) := by decide +kernel
theorem dX5_eatenAt_25 : decode cX5_eatenAt 25 = .ok (.aload_n 0, 1) := by decide +kernel
theorem dX5_eatenAt_26 : decode cX5_eatenAt 26 = .ok (.iload_n 3, 1) := by decide +kernel
theorem dX5_eatenAt_27 : decode cX5_eatenAt 27 = .ok (.invokevirtual 81, 3) := by decide +kernel
theorem dX5_eatenAt_30 : decode cX5_eatenAt 30 = .ok (.goto 4, 3) := by decide +kernel
theorem dX5_eatenAt_33 : decode cX5_eatenAt 33 = .ok (.iconst 0, 1) := by decide +kernel
theorem dX5_eatenAt_34 : decode cX5_eatenAt 34 = .ok (.iadd, 1) := by decide +kernel
theorem dX5_eatenAt_35 : decode cX5_eatenAt 35 = .ok (.istore_n 2, 1) := by decide +kernel
theorem dX5_eatenAt_36 : decode cX5_eatenAt 36 = .ok (.iinc 3 1, 3) := by decide +kernel
theorem dX5_eatenAt_39 : decode cX5_eatenAt 39 = .ok (.goto (-35), 3) := by decide +kernel
theorem dX5_eatenAt_42 : decode cX5_eatenAt 42 = .ok (.iload_n 2, 1) := by decide +kernel
theorem dX5_eatenAt_43 : decode cX5_eatenAt 43 = .ok (.ireturn, 1) := by decide +kernel
theorem dX5_houseOf_0 : decode cX5_houseOf 0 = .ok (.iload_n 1, 1) := by decide +kernel
theorem dX5_houseOf_1 : decode cX5_houseOf 1 = .ok (.invokestatic 67, 3) := by decide +kernel
theorem dX5_houseOf_4 : decode cX5_houseOf 4 = .ok (.ifCond .eq 15, 3) := by decide +kernel
theorem dX5_houseOf_7 : decode cX5_houseOf 7 = .ok (.iload_n 2, 1) := by decide +kernel
theorem dX5_houseOf_8 : decode cX5_houseOf 8 = .ok (.i2l, 1) := by decide +kernel
theorem dX5_houseOf_9 : decode cX5_houseOf 9 = .ok (.lconst 0, 1) := by decide +kernel
theorem dX5_houseOf_10 : decode cX5_houseOf 10 = .ok (.ldc2_w 52, 3) := by decide +kernel
theorem dX5_houseOf_13 : decode cX5_houseOf 13 = .ok (.invokestatic 48, 3) := by decide +kernel
theorem dX5_houseOf_16 : decode cX5_houseOf 16 = .ok (.ifCond .ne 10, 3) := by decide +kernel
theorem dX5_houseOf_19 : decode cX5_houseOf 19 = .ok (.aload_n 0, 1) := by decide +kernel
theorem dX5_houseOf_20 : decode cX5_houseOf 20 = .ok (.ldc 45, 2) := by decide +kernel
theorem dX5_houseOf_22 : decode cX5_houseOf 22 = .ok (.invokevirtual 74, 3) := by decide +kernel
theorem dX5_houseOf_25 : decode cX5_houseOf 25 = .ok (.ireturn, 1) := by decide +kernel
theorem dX5_houseOf_26 : decode cX5_houseOf 26 = .ok (.iload_n 2, 1) := by decide +kernel
theorem dX5_houseOf_27 : decode cX5_houseOf 27 = .ok (.iconst 2, 1) := by decide +kernel
theorem dX5_houseOf_28 : decode cX5_houseOf 28 = .ok (.if_icmp .gt 12, 3) := by decide +kernel
theorem dX5_houseOf_31 : decode cX5_houseOf 31 = .ok (.aload_n 0, 1) := by decide +kernel
theorem dX5_houseOf_32 : decode cX5_houseOf 32 = .ok (.iload_n 1, 1) := by decide +kernel
theorem dX5_houseOf_33 : decode cX5_houseOf 33 = .ok (.iload_n 2, 1) := by decide +kernel
theorem dX5_houseOf_34 : decode cX5_houseOf 34 = .ok (.invokevirtual 84, 3) := by decide +kernel
theorem dX5_houseOf_37 : decode cX5_houseOf 37 = .ok (.goto 34, 3) := by decide +kernel
theorem dX5_houseOf_40 : decode cX5_houseOf 40 = .ok (.iload_n 2, 1) := by decide +kernel
theorem dX5_houseOf_41 : decode cX5_houseOf 41 = .ok (.iconst 3, 1) := by decide +kernel
theorem dX5_houseOf_42 : decode cX5_houseOf 42 = .ok (.if_icmp .ne 11, 3) := by decide +kernel
theorem dX5_houseOf_45 : decode cX5_houseOf 45 = .ok (.aload_n 0, 1) := by decide +kernel
theorem dX5_houseOf_46 : decode cX5_houseOf 46 = .ok (.iload_n 1, 1) := by decide +kernel
theorem dX5_houseOf_47 : decode cX5_houseOf 47 = .ok (.invokevirtual 87, 3) := by decide +kernel
theorem dX5_houseOf_50 : decode cX5_houseOf 50 = .ok (.goto 21, 3) := by decide +kernel
theorem dX5_houseOf_53 : decode cX5_houseOf 53 = .ok (.iload_n 2, 1) := by decide +kernel
theorem dX5_houseOf_54 : decode cX5_houseOf 54 = .ok (.iconst 4, 1) := by decide +kernel
theorem dX5_houseOf_55 : decode cX5_houseOf 55 = .ok (.if_icmp .ne 11, 3) := by decide +kernel
theorem dX5_houseOf_58 : decode cX5_houseOf 58 = .ok (.aload_n 0, 1) := by decide +kernel
theorem dX5_houseOf_59 : decode cX5_houseOf 59 = .ok (.iload_n 1, 1) := by decide +kernel
theorem dX5_houseOf_60 : decode cX5_houseOf 60 = .ok (.invokevirtual 90, 3) := by decide +kernel
theorem dX5_houseOf_63 : decode cX5_houseOf 63 = .ok (.goto 8, 3) := by decide +kernel
theorem dX5_houseOf_66 : decode cX5_houseOf 66 = .ok (.aload_n 0, 1) := by decide +kernel
theorem dX5_houseOf_67 : decode cX5_houseOf 67 = .ok (.iload_n 1, 1) := by decide +kernel
theorem dX5_houseOf_68 : decode cX5_houseOf 68 = .ok (.invokevirtual 93, 3) := by decide +kernel
theorem dX5_houseOf_71 : decode cX5_houseOf 71 = .ok (.ireturn, 1) := by decide +kernel
theorem dX5_adds_0 : decode cX5_adds 0 = .ok (.aload_n 0, 1) := by decide +kernel
theorem dX5_adds_1 : decode cX5_adds 1 = .ok (.getfield 7, 3) := by decide +kernel
theorem dX5_adds_4 : decode cX5_adds 4 = .ok (.iconst 0, 1) := by decide +kernel
theorem dX5_adds_5 : decode cX5_adds 5 = .ok (.iaload, 1) := by decide +kernel
theorem dX5_adds_6 : decode cX5_adds 6 = .ok (.istore_n 3, 1) := by decide +kernel
theorem dX5_adds_7 : decode cX5_adds 7 = .ok (.aload_n 0, 1) := by decide +kernel
theorem dX5_adds_8 : decode cX5_adds 8 = .ok (.getfield 7, 3) := by decide +kernel
theorem dX5_adds_11 : decode cX5_adds 11 = .ok (.iload_n 3, 1) := by decide +kernel
theorem dX5_adds_12 : decode cX5_adds 12 = .ok (.iconst 0, 1) := by decide +kernel
theorem dX5_adds_13 : decode cX5_adds 13 = .ok (.invokestatic 56, 3) := by decide +kernel
theorem dX5_adds_16 : decode cX5_adds 16 = .ok (.iload_n 1, 1) := by decide +kernel
theorem dX5_adds_17 : decode cX5_adds 17 = .ok (.iastore, 1) := by decide +kernel
theorem dX5_adds_18 : decode cX5_adds 18 = .ok (.aload_n 0, 1) := by decide +kernel
theorem dX5_adds_19 : decode cX5_adds 19 = .ok (.getfield 7, 3) := by decide +kernel
theorem dX5_adds_22 : decode cX5_adds 22 = .ok (.iload_n 3, 1) := by decide +kernel
theorem dX5_adds_23 : decode cX5_adds 23 = .ok (.iconst 1, 1) := by decide +kernel
theorem dX5_adds_24 : decode cX5_adds 24 = .ok (.invokestatic 56, 3) := by decide +kernel
theorem dX5_adds_27 : decode cX5_adds 27 = .ok (.iload_n 2, 1) := by decide +kernel
theorem dX5_adds_28 : decode cX5_adds 28 = .ok (.iastore, 1) := by decide +kernel
theorem dX5_adds_29 : decode cX5_adds 29 = .ok (.aload_n 0, 1) := by decide +kernel
theorem dX5_adds_30 : decode cX5_adds 30 = .ok (.getfield 7, 3) := by decide +kernel
theorem dX5_adds_33 : decode cX5_adds 33 = .ok (.iload_n 3, 1) := by decide +kernel
theorem dX5_adds_34 : decode cX5_adds 34 = .ok (.iconst 2, 1) := by decide +kernel
theorem dX5_adds_35 : decode cX5_adds 35 = .ok (.invokestatic 56, 3) := by decide +kernel
theorem dX5_adds_38 : decode cX5_adds 38 = .ok (.bipush 10, 2) := by decide +kernel
theorem dX5_adds_40 : decode cX5_adds 40 = .ok (.iastore, 1) := by decide +kernel
theorem dX5_adds_41 : decode cX5_adds 41 = .ok (.aload_n 0, 1) := by decide +kernel
theorem dX5_adds_42 : decode cX5_adds 42 = .ok (.getfield 7, 3) := by decide +kernel
theorem dX5_adds_45 : decode cX5_adds 45 = .ok (.iload_n 3, 1) := by decide +kernel
theorem dX5_adds_46 : decode cX5_adds 46 = .ok (.iconst 3, 1) := by decide +kernel
theorem dX5_adds_47 : decode cX5_adds 47 = .ok (.invokestatic 56, 3) := by decide +kernel
theorem dX5_adds_50 : decode cX5_adds 50 = .ok (.iconst 0, 1) := by decide +kernel
theorem dX5_adds_51 : decode cX5_adds 51 = .ok (.iastore, 1) := by decide +kernel
theorem dX5_adds_52 : decode cX5_adds 52 = .ok (.aload_n 0, 1) := by decide +kernel
theorem dX5_adds_53 : decode cX5_adds 53 = .ok (.getfield 7, 3) := by decide +kernel
theorem dX5_adds_56 : decode cX5_adds 56 = .ok (.iload_n 3, 1) := by decide +kernel
theorem dX5_adds_57 : decode cX5_adds 57 = .ok (.iconst 4, 1) := by decide +kernel
theorem dX5_adds_58 : decode cX5_adds 58 = .ok (.invokestatic 56, 3) := by decide +kernel
theorem dX5_adds_61 : decode cX5_adds 61 = .ok (.iconst (-1), 1) := by decide +kernel
theorem dX5_adds_62 : decode cX5_adds 62 = .ok (.iastore, 1) := by decide +kernel
theorem dX5_adds_63 : decode cX5_adds 63 = .ok (.aload_n 0, 1) := by decide +kernel
theorem dX5_adds_64 : decode cX5_adds 64 = .ok (.getfield 7, 3) := by decide +kernel
theorem dX5_adds_67 : decode cX5_adds 67 = .ok (.iconst 0, 1) := by decide +kernel
theorem dX5_adds_68 : decode cX5_adds 68 = .ok (.dup2, 1) := by decide +kernel
theorem dX5_adds_69 : decode cX5_adds 69 = .ok (.iaload, 1) := by decide +kernel
theorem dX5_adds_70 : decode cX5_adds 70 = .ok (.iconst 1, 1) := by decide +kernel
theorem dX5_adds_71 : decode cX5_adds 71 = .ok (.iadd, 1) := by decide +kernel
theorem dX5_adds_72 : decode cX5_adds 72 = .ok (.iastore, 1) := by decide +kernel
theorem dX5_adds_73 : decode cX5_adds 73 = .ok (.iload_n 3, 1) := by decide +kernel
theorem dX5_adds_74 : decode cX5_adds 74 = .ok (.ireturn, 1) := by decide +kernel
theorem dX5_rumour_0 : decode cX5_rumour 0 = .ok (.iload_n 1, 1) := by decide +kernel
theorem dX5_rumour_1 : decode cX5_rumour 1 = .ok (.invokestatic 96, 3) := by decide +kernel
theorem dX5_rumour_4 : decode cX5_rumour 4 = .ok (.ifCond .eq 10, 3) := by decide +kernel
theorem dX5_rumour_7 : decode cX5_rumour 7 = .ok (.iload_n 2, 1) := by decide +kernel
theorem dX5_rumour_8 : decode cX5_rumour 8 = .ok (.invokestatic 99, 3) := by decide +kernel
theorem dX5_rumour_11 : decode cX5_rumour 11 = .ok (.ifCond .ne 10, 3) := by decide +kernel
theorem dX5_rumour_14 : decode cX5_rumour 14 = .ok (.aload_n 0, 1) := by decide +kernel
theorem dX5_rumour_15 : decode cX5_rumour 15 = .ok (.ldc 45, 2) := by decide +kernel
theorem dX5_rumour_17 : decode cX5_rumour 17 = .ok (.invokevirtual 74, 3) := by decide +kernel
theorem dX5_rumour_20 : decode cX5_rumour 20 = .ok (.ireturn, 1) := by decide +kernel
theorem dX5_rumour_21 : decode cX5_rumour 21 = .ok (.aload_n 0, 1) := by decide +kernel
theorem dX5_rumour_22 : decode cX5_rumour 22 = .ok (.getfield 7, 3) := by decide +kernel
theorem dX5_rumour_25 : decode cX5_rumour 25 = .ok (.iconst 0, 1) := by decide +kernel
theorem dX5_rumour_26 : decode cX5_rumour 26 = .ok (.iaload, 1) := by decide +kernel
theorem dX5_rumour_27 : decode cX5_rumour 27 = .ok (.bipush 10, 2) := by decide +kernel
theorem dX5_rumour_29 : decode cX5_rumour 29 = .ok (.if_icmp .ne 12, 3) := by decide +kernel
theorem dX5_rumour_32 : decode cX5_rumour 32 = .ok (.aload_n 0, 1) := by decide +kernel
theorem dX5_rumour_33 : decode cX5_rumour 33 = .ok (.ldc 102, 2) := by decide +kernel
theorem dX5_rumour_35 : decode cX5_rumour 35 = .ok (.invokevirtual 74, 3) := by decide +kernel
theorem dX5_rumour_38 : decode cX5_rumour 38 = .ok (.goto 9, 3) := by decide +kernel
theorem dX5_rumour_41 : decode cX5_rumour 41 = .ok (.aload_n 0, 1) := by decide +kernel
theorem dX5_rumour_42 : decode cX5_rumour 42 = .ok (.iload_n 1, 1) := by decide +kernel
theorem dX5_rumour_43 : decode cX5_rumour 43 = .ok (.iload_n 2, 1) := by decide +kernel
theorem dX5_rumour_44 : decode cX5_rumour 44 = .ok (.invokevirtual 103, 3) := by decide +kernel
theorem dX5_rumour_47 : decode cX5_rumour 47 = .ok (.ireturn, 1) := by decide +kernel
theorem dX5_eats_0 : decode cX5_eats 0 = .ok (.aload_n 0, 1) := by decide +kernel
theorem dX5_eats_1 : decode cX5_eats 1 = .ok (.iload_n 1, 1) := by decide +kernel
theorem dX5_eats_2 : decode cX5_eats 2 = .ok (.iconst 2, 1) := by decide +kernel
theorem dX5_eats_3 : decode cX5_eats 3 = .ok (.invokevirtual 78, 3) := by decide +kernel
theorem dX5_eats_6 : decode cX5_eats 6 = .ok (.bipush 10, 2) := by decide +kernel
theorem dX5_eats_8 : decode cX5_eats 8 = .ok (.idiv, 1) := by decide +kernel
theorem dX5_eats_9 : decode cX5_eats 9 = .ok (.iconst 1, 1) := by decide +kernel
theorem dX5_eats_10 : decode cX5_eats 10 = .ok (.iadd, 1) := by decide +kernel
theorem dX5_eats_11 : decode cX5_eats 11 = .ok (.istore_n 2, 1) := by decide +kernel
theorem dX5_eats_12 : decode cX5_eats 12 = .ok (.iload_n 2, 1) := by decide +kernel
theorem dX5_eats_13 : decode cX5_eats 13 = .ok (.aload_n 0, 1) := by decide +kernel
theorem dX5_eats_14 : decode cX5_eats 14 = .ok (.iload_n 1, 1) := by decide +kernel
theorem dX5_eats_15 : decode cX5_eats 15 = .ok (.iconst 3, 1) := by decide +kernel
theorem dX5_eats_16 : decode cX5_eats 16 = .ok (.invokevirtual 78, 3) := by decide +kernel
theorem dX5_eats_19 : decode cX5_eats 19 = .ok (.bipush 10, 2) := by decide +kernel
theorem dX5_eats_21 : decode cX5_eats 21 = .ok (.idiv, 1) := by decide +kernel
theorem dX5_eats_22 : decode cX5_eats 22 = .ok (.isub, 1) := by decide +kernel
theorem dX5_eats_23 : decode cX5_eats 23 = .ok (.istore_n 3, 1) := by decide +kernel
theorem dX5_eats_24 : decode cX5_eats 24 = .ok (.aload_n 0, 1) := by decide +kernel
theorem dX5_eats_25 : decode cX5_eats 25 = .ok (.iload_n 1, 1) := by decide +kernel
theorem dX5_eats_26 : decode cX5_eats 26 = .ok (.iconst 0, 1) := by decide +kernel
theorem dX5_eats_27 : decode cX5_eats 27 = .ok (.invokevirtual 78, 3) := by decide +kernel
theorem dX5_eats_30 : decode cX5_eats 30 = .ok (.tableswitch 58 1 5 #[34, 38, 40, 50, 56], 34) := by decide +kernel
theorem dX5_eats_64 : decode cX5_eats 64 = .ok (.iconst 2, 1) := by decide +kernel
theorem dX5_eats_65 : decode cX5_eats 65 = .ok (.iload_n 2, 1) := by decide +kernel
theorem dX5_eats_66 : decode cX5_eats 66 = .ok (.imul, 1) := by decide +kernel
theorem dX5_eats_67 : decode cX5_eats 67 = .ok (.ireturn, 1) := by decide +kernel
theorem dX5_eats_68 : decode cX5_eats 68 = .ok (.iconst 1, 1) := by decide +kernel
theorem dX5_eats_69 : decode cX5_eats 69 = .ok (.ireturn, 1) := by decide +kernel
theorem dX5_eats_70 : decode cX5_eats 70 = .ok (.iload_n 3, 1) := by decide +kernel
theorem dX5_eats_71 : decode cX5_eats 71 = .ok (.ifCond .ge 7, 3) := by decide +kernel
theorem dX5_eats_74 : decode cX5_eats 74 = .ok (.iconst 0, 1) := by decide +kernel
theorem dX5_eats_75 : decode cX5_eats 75 = .ok (.goto 4, 3) := by decide +kernel
theorem dX5_eats_78 : decode cX5_eats 78 = .ok (.iload_n 3, 1) := by decide +kernel
theorem dX5_eats_79 : decode cX5_eats 79 = .ok (.ireturn, 1) := by decide +kernel
theorem dX5_eats_80 : decode cX5_eats 80 = .ok (.iconst 2, 1) := by decide +kernel
theorem dX5_eats_81 : decode cX5_eats 81 = .ok (.iload_n 2, 1) := by decide +kernel
theorem dX5_eats_82 : decode cX5_eats 82 = .ok (.imul, 1) := by decide +kernel
theorem dX5_eats_83 : decode cX5_eats 83 = .ok (.iconst 3, 1) := by decide +kernel
theorem dX5_eats_84 : decode cX5_eats 84 = .ok (.iadd, 1) := by decide +kernel
theorem dX5_eats_85 : decode cX5_eats 85 = .ok (.ireturn, 1) := by decide +kernel
theorem dX5_eats_86 : decode cX5_eats 86 = .ok (.iconst 0, 1) := by decide +kernel
theorem dX5_eats_87 : decode cX5_eats 87 = .ok (.ireturn, 1) := by decide +kernel
theorem dX5_eats_88 : decode cX5_eats 88 = .ok (.iload_n 2, 1) := by decide +kernel
theorem dX5_eats_89 : decode cX5_eats 89 = .ok (.ireturn, 1) := by decide +kernel
theorem dX5_needs_0 : decode cX5_needs 0 = .ok (.aload_n 0, 1) := by decide +kernel
theorem dX5_needs_1 : decode cX5_needs 1 = .ok (.iload_n 1, 1) := by decide +kernel
theorem dX5_needs_2 : decode cX5_needs 2 = .ok (.iconst 2, 1) := by decide +kernel
theorem dX5_needs_3 : decode cX5_needs 3 = .ok (.invokevirtual 78, 3) := by decide +kernel
theorem dX5_needs_6 : decode cX5_needs 6 = .ok (.bipush 20, 2) := by decide +kernel
theorem dX5_needs_8 : decode cX5_needs 8 = .ok (.if_icmp .ge 7, 3) := by decide +kernel
theorem dX5_needs_11 : decode cX5_needs 11 = .ok (.iconst 1, 1) := by decide +kernel
theorem dX5_needs_12 : decode cX5_needs 12 = .ok (.goto 4, 3) := by decide +kernel
theorem dX5_needs_15 : decode cX5_needs 15 = .ok (.iconst 3, 1) := by decide +kernel
theorem dX5_needs_16 : decode cX5_needs 16 = .ok (.istore_n 2, 1) := by decide +kernel
theorem dX5_needs_17 : decode cX5_needs 17 = .ok (.aload_n 0, 1) := by decide +kernel
theorem dX5_needs_18 : decode cX5_needs 18 = .ok (.iload_n 1, 1) := by decide +kernel
theorem dX5_needs_19 : decode cX5_needs 19 = .ok (.iconst 0, 1) := by decide +kernel
theorem dX5_needs_20 : decode cX5_needs 20 = .ok (.invokevirtual 78, 3) := by decide +kernel
theorem dX5_needs_23 : decode cX5_needs 23 = .ok (.tableswitch 47 1 5 #[33, 35, 38, 40, 44], 33) := by decide +kernel
theorem dX5_needs_56 : decode cX5_needs 56 = .ok (.iload_n 2, 1) := by decide +kernel
theorem dX5_needs_57 : decode cX5_needs 57 = .ok (.ireturn, 1) := by decide +kernel
theorem dX5_needs_58 : decode cX5_needs 58 = .ok (.bipush 6, 2) := by decide +kernel
theorem dX5_needs_60 : decode cX5_needs 60 = .ok (.ireturn, 1) := by decide +kernel
theorem dX5_needs_61 : decode cX5_needs 61 = .ok (.iconst 4, 1) := by decide +kernel
theorem dX5_needs_62 : decode cX5_needs 62 = .ok (.ireturn, 1) := by decide +kernel
theorem dX5_needs_63 : decode cX5_needs 63 = .ok (.iload_n 2, 1) := by decide +kernel
theorem dX5_needs_64 : decode cX5_needs 64 = .ok (.iconst 1, 1) := by decide +kernel
theorem dX5_needs_65 : decode cX5_needs 65 = .ok (.isub, 1) := by decide +kernel
theorem dX5_needs_66 : decode cX5_needs 66 = .ok (.ireturn, 1) := by decide +kernel
theorem dX5_needs_67 : decode cX5_needs 67 = .ok (.bipush 7, 2) := by decide +kernel
theorem dX5_needs_69 : decode cX5_needs 69 = .ok (.ireturn, 1) := by decide +kernel
theorem dX5_needs_70 : decode cX5_needs 70 = .ok (.iconst 3, 1) := by decide +kernel
theorem dX5_needs_71 : decode cX5_needs 71 = .ok (.ireturn, 1) := by decide +kernel
theorem dX5_grows_0 : decode cX5_grows 0 = .ok (.aload_n 0, 1) := by decide +kernel
theorem dX5_grows_1 : decode cX5_grows 1 = .ok (.iload_n 1, 1) := by decide +kernel
theorem dX5_grows_2 : decode cX5_grows 2 = .ok (.iconst 0, 1) := by decide +kernel
theorem dX5_grows_3 : decode cX5_grows 3 = .ok (.invokevirtual 78, 3) := by decide +kernel
theorem dX5_grows_6 : decode cX5_grows 6 = .ok (.tableswitch 65 1 5 #[34, 46, 48, 34, 46], 34) := by decide +kernel
theorem dX5_grows_40 : decode cX5_grows 40 = .ok (.aload_n 0, 1) := by decide +kernel
theorem dX5_grows_41 : decode cX5_grows 41 = .ok (.iload_n 1, 1) := by decide +kernel
theorem dX5_grows_42 : decode cX5_grows 42 = .ok (.iconst 2, 1) := by decide +kernel
theorem dX5_grows_43 : decode cX5_grows 43 = .ok (.invokevirtual 78, 3) := by decide +kernel
theorem dX5_grows_46 : decode cX5_grows 46 = .ok (.bipush 10, 2) := by decide +kernel
theorem dX5_grows_48 : decode cX5_grows 48 = .ok (.idiv, 1) := by decide +kernel
theorem dX5_grows_49 : decode cX5_grows 49 = .ok (.iconst 1, 1) := by decide +kernel
theorem dX5_grows_50 : decode cX5_grows 50 = .ok (.iadd, 1) := by decide +kernel
theorem dX5_grows_51 : decode cX5_grows 51 = .ok (.ireturn, 1) := by decide +kernel
theorem dX5_grows_52 : decode cX5_grows 52 = .ok (.iconst 0, 1) := by decide +kernel
theorem dX5_grows_53 : decode cX5_grows 53 = .ok (.ireturn, 1) := by decide +kernel
theorem dX5_grows_54 : decode cX5_grows 54 = .ok (.aload_n 0, 1) := by decide +kernel
theorem dX5_grows_55 : decode cX5_grows 55 = .ok (.iload_n 1, 1) := by decide +kernel
theorem dX5_grows_56 : decode cX5_grows 56 = .ok (.iconst 3, 1) := by decide +kernel
theorem dX5_grows_57 : decode cX5_grows 57 = .ok (.invokevirtual 78, 3) := by decide +kernel
theorem dX5_grows_60 : decode cX5_grows 60 = .ok (.iconst 2, 1) := by decide +kernel
theorem dX5_grows_61 : decode cX5_grows 61 = .ok (.irem, 1) := by decide +kernel
theorem dX5_grows_62 : decode cX5_grows 62 = .ok (.ifCond .ne 7, 3) := by decide +kernel
theorem dX5_grows_65 : decode cX5_grows 65 = .ok (.iconst 1, 1) := by decide +kernel
theorem dX5_grows_66 : decode cX5_grows 66 = .ok (.goto 4, 3) := by decide +kernel
theorem dX5_grows_69 : decode cX5_grows 69 = .ok (.iconst 0, 1) := by decide +kernel
theorem dX5_grows_70 : decode cX5_grows 70 = .ok (.ireturn, 1) := by decide +kernel
theorem dX5_grows_71 : decode cX5_grows 71 = .ok (.iconst 1, 1) := by decide +kernel
theorem dX5_grows_72 : decode cX5_grows 72 = .ok (.ireturn, 1) := by decide +kernel
theorem dX5_of_0 : decode cX5_of 0 = .ok (.aload_n 0, 1) := by decide +kernel
theorem dX5_of_1 : decode cX5_of 1 = .ok (.iload_n 1, 1) := by decide +kernel
theorem dX5_of_2 : decode cX5_of 2 = .ok (.invokevirtual 106, 3) := by decide +kernel
theorem dX5_of_5 : decode cX5_of 5 = .ok (.ifCond .eq 15, 3) := by decide +kernel
theorem dX5_of_8 : decode cX5_of 8 = .ok (.iload_n 2, 1) := by decide +kernel
theorem dX5_of_9 : decode cX5_of 9 = .ok (.i2l, 1) := by decide +kernel
theorem dX5_of_10 : decode cX5_of 10 = .ok (.lconst 0, 1) := by decide +kernel
theorem dX5_of_11 : decode cX5_of 11 = .ok (.ldc2_w 46, 3) := by decide +kernel
theorem dX5_of_14 : decode cX5_of 14 = .ok (.invokestatic 48, 3) := by decide +kernel
theorem dX5_of_17 : decode cX5_of 17 = .ok (.ifCond .ne 10, 3) := by decide +kernel
theorem dX5_of_20 : decode cX5_of 20 = .ok (.aload_n 0, 1) := by decide +kernel
theorem dX5_of_21 : decode cX5_of 21 = .ok (.ldc 45, 2) := by decide +kernel
theorem dX5_of_23 : decode cX5_of 23 = .ok (.invokevirtual 74, 3) := by decide +kernel
theorem dX5_of_26 : decode cX5_of 26 = .ok (.ireturn, 1) := by decide +kernel
theorem dX5_of_27 : decode cX5_of 27 = .ok (.iload_n 2, 1) := by decide +kernel
theorem dX5_of_28 : decode cX5_of 28 = .ok (.iconst 4, 1) := by decide +kernel
theorem dX5_of_29 : decode cX5_of 29 = .ok (.if_icmp .gt 12, 3) := by decide +kernel
theorem dX5_of_32 : decode cX5_of 32 = .ok (.aload_n 0, 1) := by decide +kernel
theorem dX5_of_33 : decode cX5_of 33 = .ok (.iload_n 1, 1) := by decide +kernel
theorem dX5_of_34 : decode cX5_of 34 = .ok (.iload_n 2, 1) := by decide +kernel
theorem dX5_of_35 : decode cX5_of 35 = .ok (.invokevirtual 78, 3) := by decide +kernel
theorem dX5_of_38 : decode cX5_of 38 = .ok (.goto 35, 3) := by decide +kernel
theorem dX5_of_41 : decode cX5_of 41 = .ok (.iload_n 2, 1) := by decide +kernel
theorem dX5_of_42 : decode cX5_of 42 = .ok (.iconst 5, 1) := by decide +kernel
theorem dX5_of_43 : decode cX5_of 43 = .ok (.if_icmp .ne 11, 3) := by decide +kernel
theorem dX5_of_46 : decode cX5_of 46 = .ok (.aload_n 0, 1) := by decide +kernel
theorem dX5_of_47 : decode cX5_of 47 = .ok (.iload_n 1, 1) := by decide +kernel
theorem dX5_of_48 : decode cX5_of 48 = .ok (.invokevirtual 81, 3) := by decide +kernel
theorem dX5_of_51 : decode cX5_of 51 = .ok (.goto 22, 3) := by decide +kernel
theorem dX5_of_54 : decode cX5_of 54 = .ok (.iload_n 2, 1) := by decide +kernel
theorem dX5_of_55 : decode cX5_of 55 = .ok (.bipush 6, 2) := by decide +kernel
theorem dX5_of_57 : decode cX5_of 57 = .ok (.if_icmp .ne 11, 3) := by decide +kernel
theorem dX5_of_60 : decode cX5_of 60 = .ok (.aload_n 0, 1) := by decide +kernel
theorem dX5_of_61 : decode cX5_of 61 = .ok (.iload_n 1, 1) := by decide +kernel
theorem dX5_of_62 : decode cX5_of 62 = .ok (.invokevirtual 109, 3) := by decide +kernel
theorem dX5_of_65 : decode cX5_of 65 = .ok (.goto 8, 3) := by decide +kernel
theorem dX5_of_68 : decode cX5_of 68 = .ok (.aload_n 0, 1) := by decide +kernel
theorem dX5_of_69 : decode cX5_of 69 = .ok (.iload_n 1, 1) := by decide +kernel
theorem dX5_of_70 : decode cX5_of 70 = .ok (.invokevirtual 112, 3) := by decide +kernel
theorem dX5_of_73 : decode cX5_of 73 = .ok (.ireturn, 1) := by decide +kernel
theorem dX5_set_0 : decode cX5_set 0 = .ok (.iload_n 2, 1) := by decide +kernel
theorem dX5_set_1 : decode cX5_set 1 = .ok (.i2l, 1) := by decide +kernel
theorem dX5_set_2 : decode cX5_set 2 = .ok (.lconst 1, 1) := by decide +kernel
theorem dX5_set_3 : decode cX5_set 3 = .ok (.ldc2_w 61, 3) := by decide +kernel
theorem dX5_set_6 : decode cX5_set 6 = .ok (.invokestatic 48, 3) := by decide +kernel
theorem dX5_set_9 : decode cX5_set 9 = .ok (.ifCond .eq 41, 3) := by decide +kernel
theorem dX5_set_12 : decode cX5_set 12 = .ok (.iload_n 3, 1) := by decide +kernel
theorem dX5_set_13 : decode cX5_set 13 = .ok (.i2l, 1) := by decide +kernel
theorem dX5_set_14 : decode cX5_set 14 = .ok (.lconst 0, 1) := by decide +kernel
theorem dX5_set_15 : decode cX5_set 15 = .ok (.iload_n 2, 1) := by decide +kernel
theorem dX5_set_16 : decode cX5_set 16 = .ok (.iconst 1, 1) := by decide +kernel
theorem dX5_set_17 : decode cX5_set 17 = .ok (.if_icmp .ne 9, 3) := by decide +kernel
theorem dX5_set_20 : decode cX5_set 20 = .ok (.ldc2_w 54, 3) := by decide +kernel
theorem dX5_set_23 : decode cX5_set 23 = .ok (.goto 17, 3) := by decide +kernel
theorem dX5_set_26 : decode cX5_set 26 = .ok (.iload_n 2, 1) := by decide +kernel
theorem dX5_set_27 : decode cX5_set 27 = .ok (.iconst 2, 1) := by decide +kernel
theorem dX5_set_28 : decode cX5_set 28 = .ok (.if_icmp .ne 9, 3) := by decide +kernel
theorem dX5_set_31 : decode cX5_set 31 = .ok (.ldc2_w 115, 3) := by decide +kernel
theorem dX5_set_34 : decode cX5_set 34 = .ok (.goto 6, 3) := by decide +kernel
theorem dX5_set_37 : decode cX5_set 37 = .ok (.ldc2_w 63, 3) := by decide +kernel
theorem dX5_set_40 : decode cX5_set 40 = .ok (.invokestatic 48, 3) := by decide +kernel
theorem dX5_set_43 : decode cX5_set 43 = .ok (.ifCond .eq 7, 3) := by decide +kernel
theorem dX5_set_46 : decode cX5_set 46 = .ok (.iconst 1, 1) := by decide +kernel
theorem dX5_set_47 : decode cX5_set 47 = .ok (.goto 4, 3) := by decide +kernel
theorem dX5_set_50 : decode cX5_set 50 = .ok (.iconst 0, 1) := by decide +kernel
theorem dX5_set_51 : decode cX5_set 51 = .ok (.istore 4, 2) := by decide +kernel
theorem dX5_set_53 : decode cX5_set 53 = .ok (.aload_n 0, 1) := by decide +kernel
theorem dX5_set_54 : decode cX5_set 54 = .ok (.iload_n 1, 1) := by decide +kernel
theorem dX5_set_55 : decode cX5_set 55 = .ok (.invokevirtual 106, 3) := by decide +kernel
theorem dX5_set_58 : decode cX5_set 58 = .ok (.ifCond .eq 21, 3) := by decide +kernel
theorem dX5_set_61 : decode cX5_set 61 = .ok (.iload 4, 2) := by decide +kernel
theorem dX5_set_63 : decode cX5_set 63 = .ok (.ifCond .eq 16, 3) := by decide +kernel
theorem dX5_set_66 : decode cX5_set 66 = .ok (.aload_n 0, 1) := by decide +kernel
theorem dX5_set_67 : decode cX5_set 67 = .ok (.iload_n 1, 1) := by decide +kernel
theorem dX5_set_68 : decode cX5_set 68 = .ok (.iload_n 2, 1) := by decide +kernel
theorem dX5_set_69 : decode cX5_set 69 = .ok (.invokestatic 56, 3) := by decide +kernel
theorem dX5_set_72 : decode cX5_set 72 = .ok (.iload_n 3, 1) := by decide +kernel
theorem dX5_set_73 : decode cX5_set 73 = .ok (.invokevirtual 71, 3) := by decide +kernel
theorem dX5_set_76 : decode cX5_set 76 = .ok (.goto 9, 3) := by decide +kernel
theorem dX5_set_79 : decode cX5_set 79 = .ok (.aload_n 0, 1) := by decide +kernel
theorem dX5_set_80 : decode cX5_set 80 = .ok (.ldc 45, 2) := by decide +kernel
theorem dX5_set_82 : decode cX5_set 82 = .ok (.invokevirtual 74, 3) := by decide +kernel
theorem dX5_set_85 : decode cX5_set 85 = .ok (.ireturn, 1) := by decide +kernel
theorem dX5_turn_0 : decode cX5_turn 0 = .ok (.aload_n 0, 1) := by decide +kernel
theorem dX5_turn_1 : decode cX5_turn 1 = .ok (.iload_n 1, 1) := by decide +kernel
theorem dX5_turn_2 : decode cX5_turn 2 = .ok (.invokevirtual 106, 3) := by decide +kernel
theorem dX5_turn_5 : decode cX5_turn 5 = .ok (.ifCond .eq 23, 3) := by decide +kernel
theorem dX5_turn_8 : decode cX5_turn 8 = .ok (.iload_n 2, 1) := by decide +kernel
theorem dX5_turn_9 : decode cX5_turn 9 = .ok (.invokestatic 96, 3) := by decide +kernel
theorem dX5_turn_12 : decode cX5_turn 12 = .ok (.ifCond .eq 16, 3) := by decide +kernel
theorem dX5_turn_15 : decode cX5_turn 15 = .ok (.aload_n 0, 1) := by decide +kernel
theorem dX5_turn_16 : decode cX5_turn 16 = .ok (.iload_n 1, 1) := by decide +kernel
theorem dX5_turn_17 : decode cX5_turn 17 = .ok (.iconst 0, 1) := by decide +kernel
theorem dX5_turn_18 : decode cX5_turn 18 = .ok (.invokestatic 56, 3) := by decide +kernel
theorem dX5_turn_21 : decode cX5_turn 21 = .ok (.iload_n 2, 1) := by decide +kernel
theorem dX5_turn_22 : decode cX5_turn 22 = .ok (.invokevirtual 71, 3) := by decide +kernel
theorem dX5_turn_25 : decode cX5_turn 25 = .ok (.goto 9, 3) := by decide +kernel
theorem dX5_turn_28 : decode cX5_turn 28 = .ok (.aload_n 0, 1) := by decide +kernel
theorem dX5_turn_29 : decode cX5_turn 29 = .ok (.ldc 45, 2) := by decide +kernel
theorem dX5_turn_31 : decode cX5_turn 31 = .ok (.invokevirtual 74, 3) := by decide +kernel
theorem dX5_turn_34 : decode cX5_turn 34 = .ok (.ireturn, 1) := by decide +kernel
theorem dX5_isUnder_0 : decode cX5_isUnder 0 = .ok (.iload_n 1, 1) := by decide +kernel
theorem dX5_isUnder_1 : decode cX5_isUnder 1 = .ok (.ifCond .eq 20, 3) := by decide +kernel
theorem dX5_isUnder_4 : decode cX5_isUnder 4 = .ok (.iload_n 0, 1) := by decide +kernel
theorem dX5_isUnder_5 : decode cX5_isUnder 5 = .ok (.iload_n 1, 1) := by decide +kernel
theorem dX5_isUnder_6 : decode cX5_isUnder 6 = .ok (.if_icmp .eq 15, 3) := by decide +kernel
theorem dX5_isUnder_9 : decode cX5_isUnder 9 = .ok (.iload_n 0, 1) := by decide +kernel
theorem dX5_isUnder_10 : decode cX5_isUnder 10 = .ok (.iconst 3, 1) := by decide +kernel
theorem dX5_isUnder_11 : decode cX5_isUnder 11 = .ok (.if_icmp .le 14, 3) := by decide +kernel
theorem dX5_isUnder_14 : decode cX5_isUnder 14 = .ok (.iload_n 0, 1) := by decide +kernel
theorem dX5_isUnder_15 : decode cX5_isUnder 15 = .ok (.iconst 3, 1) := by decide +kernel
theorem dX5_isUnder_16 : decode cX5_isUnder 16 = .ok (.isub, 1) := by decide +kernel
theorem dX5_isUnder_17 : decode cX5_isUnder 17 = .ok (.iload_n 1, 1) := by decide +kernel
theorem dX5_isUnder_18 : decode cX5_isUnder 18 = .ok (.if_icmp .ne 7, 3) := by decide +kernel
theorem dX5_isUnder_21 : decode cX5_isUnder 21 = .ok (.iconst 1, 1) := by decide +kernel
theorem dX5_isUnder_22 : decode cX5_isUnder 22 = .ok (.goto 4, 3) := by decide +kernel
theorem dX5_isUnder_25 : decode cX5_isUnder 25 = .ok (.iconst 0, 1) := by decide +kernel
theorem dX5_isUnder_26 : decode cX5_isUnder 26 = .ok (.ireturn, 1) := by decide +kernel
theorem dX5_as_0 : decode cX5_as 0 = .ok (.aload_n 0, 1) := by decide +kernel
theorem dX5_as_1 : decode cX5_as 1 = .ok (.iload_n 1, 1) := by decide +kernel
theorem dX5_as_2 : decode cX5_as 2 = .ok (.invokevirtual 106, 3) := by decide +kernel
theorem dX5_as_5 : decode cX5_as 5 = .ok (.ifCond .eq 10, 3) := by decide +kernel
theorem dX5_as_8 : decode cX5_as 8 = .ok (.iload_n 2, 1) := by decide +kernel
theorem dX5_as_9 : decode cX5_as 9 = .ok (.invokestatic 96, 3) := by decide +kernel
theorem dX5_as_12 : decode cX5_as 12 = .ok (.ifCond .ne 10, 3) := by decide +kernel
theorem dX5_as_15 : decode cX5_as 15 = .ok (.aload_n 0, 1) := by decide +kernel
theorem dX5_as_16 : decode cX5_as 16 = .ok (.ldc 45, 2) := by decide +kernel
theorem dX5_as_18 : decode cX5_as 18 = .ok (.invokevirtual 74, 3) := by decide +kernel
theorem dX5_as_21 : decode cX5_as 21 = .ok (.ireturn, 1) := by decide +kernel
theorem dX5_as_22 : decode cX5_as 22 = .ok (.aload_n 0, 1) := by decide +kernel
theorem dX5_as_23 : decode cX5_as 23 = .ok (.iload_n 1, 1) := by decide +kernel
theorem dX5_as_24 : decode cX5_as 24 = .ok (.iconst 0, 1) := by decide +kernel
theorem dX5_as_25 : decode cX5_as 25 = .ok (.invokevirtual 78, 3) := by decide +kernel
theorem dX5_as_28 : decode cX5_as 28 = .ok (.iload_n 2, 1) := by decide +kernel
theorem dX5_as_29 : decode cX5_as 29 = .ok (.invokestatic 117, 3) := by decide +kernel
theorem dX5_as_32 : decode cX5_as 32 = .ok (.ifCond .eq 12, 3) := by decide +kernel
theorem dX5_as_35 : decode cX5_as 35 = .ok (.aload_n 0, 1) := by decide +kernel
theorem dX5_as_36 : decode cX5_as 36 = .ok (.iload_n 1, 1) := by decide +kernel
theorem dX5_as_37 : decode cX5_as 37 = .ok (.iconst 2, 1) := by decide +kernel
theorem dX5_as_38 : decode cX5_as 38 = .ok (.invokevirtual 78, 3) := by decide +kernel
theorem dX5_as_41 : decode cX5_as 41 = .ok (.goto 9, 3) := by decide +kernel
theorem dX5_as_44 : decode cX5_as 44 = .ok (.aload_n 0, 1) := by decide +kernel
theorem dX5_as_45 : decode cX5_as 45 = .ok (.ldc 121, 2) := by decide +kernel
theorem dX5_as_47 : decode cX5_as 47 = .ok (.invokevirtual 74, 3) := by decide +kernel
theorem dX5_as_50 : decode cX5_as 50 = .ok (.ireturn, 1) := by decide +kernel
theorem dX5_isFree_0 : decode cX5_isFree 0 = .ok (.aload_n 0, 1) := by decide +kernel
theorem dX5_isFree_1 : decode cX5_isFree 1 = .ok (.iload_n 1, 1) := by decide +kernel
theorem dX5_isFree_2 : decode cX5_isFree 2 = .ok (.invokevirtual 87, 3) := by decide +kernel
theorem dX5_isFree_5 : decode cX5_isFree 5 = .ok (.invokestatic 122, 3) := by decide +kernel
theorem dX5_isFree_8 : decode cX5_isFree 8 = .ok (.aload_n 0, 1) := by decide +kernel
theorem dX5_isFree_9 : decode cX5_isFree 9 = .ok (.iload_n 1, 1) := by decide +kernel
theorem dX5_isFree_10 : decode cX5_isFree 10 = .ok (.iconst 0, 1) := by decide +kernel
theorem dX5_isFree_11 : decode cX5_isFree 11 = .ok (.invokevirtual 84, 3) := by decide +kernel
theorem dX5_isFree_14 : decode cX5_isFree 14 = .ok (.if_icmp .ge 7, 3) := by decide +kernel
theorem dX5_isFree_17 : decode cX5_isFree 17 = .ok (.iconst 1, 1) := by decide +kernel
theorem dX5_isFree_18 : decode cX5_isFree 18 = .ok (.goto 4, 3) := by decide +kernel
theorem dX5_isFree_21 : decode cX5_isFree 21 = .ok (.iconst 0, 1) := by decide +kernel
theorem dX5_isFree_22 : decode cX5_isFree 22 = .ok (.ireturn, 1) := by decide +kernel
theorem dX5_isTaken_0 : decode cX5_isTaken 0 = .ok (.aload_n 0, 1) := by decide +kernel
theorem dX5_isTaken_1 : decode cX5_isTaken 1 = .ok (.iload_n 1, 1) := by decide +kernel
theorem dX5_isTaken_2 : decode cX5_isTaken 2 = .ok (.invokevirtual 125, 3) := by decide +kernel
theorem dX5_isTaken_5 : decode cX5_isTaken 5 = .ok (.ifCond .eq 21, 3) := by decide +kernel
theorem dX5_isTaken_8 : decode cX5_isTaken 8 = .ok (.aload_n 0, 1) := by decide +kernel
theorem dX5_isTaken_9 : decode cX5_isTaken 9 = .ok (.iload_n 1, 1) := by decide +kernel
theorem dX5_isTaken_10 : decode cX5_isTaken 10 = .ok (.iconst 2, 1) := by decide +kernel
theorem dX5_isTaken_11 : decode cX5_isTaken 11 = .ok (.invokevirtual 84, 3) := by decide +kernel
theorem dX5_isTaken_14 : decode cX5_isTaken 14 = .ok (.aload_n 0, 1) := by decide +kernel
theorem dX5_isTaken_15 : decode cX5_isTaken 15 = .ok (.iload_n 2, 1) := by decide +kernel
theorem dX5_isTaken_16 : decode cX5_isTaken 16 = .ok (.invokevirtual 109, 3) := by decide +kernel
theorem dX5_isTaken_19 : decode cX5_isTaken 19 = .ok (.if_icmp .lt 7, 3) := by decide +kernel
theorem dX5_isTaken_22 : decode cX5_isTaken 22 = .ok (.iconst 1, 1) := by decide +kernel
theorem dX5_isTaken_23 : decode cX5_isTaken 23 = .ok (.goto 4, 3) := by decide +kernel
theorem dX5_isTaken_26 : decode cX5_isTaken 26 = .ok (.iconst 0, 1) := by decide +kernel
theorem dX5_isTaken_27 : decode cX5_isTaken 27 = .ok (.ireturn, 1) := by decide +kernel
theorem dX5_takes_0 : decode cX5_takes 0 = .ok (.iload_n 1, 1) := by decide +kernel
theorem dX5_takes_1 : decode cX5_takes 1 = .ok (.invokestatic 67, 3) := by decide +kernel
theorem dX5_takes_4 : decode cX5_takes 4 = .ok (.ifCond .eq 11, 3) := by decide +kernel
theorem dX5_takes_7 : decode cX5_takes 7 = .ok (.aload_n 0, 1) := by decide +kernel
theorem dX5_takes_8 : decode cX5_takes 8 = .ok (.iload_n 2, 1) := by decide +kernel
theorem dX5_takes_9 : decode cX5_takes 9 = .ok (.invokevirtual 106, 3) := by decide +kernel
theorem dX5_takes_12 : decode cX5_takes 12 = .ok (.ifCond .ne 10, 3) := by decide +kernel
theorem dX5_takes_15 : decode cX5_takes 15 = .ok (.aload_n 0, 1) := by decide +kernel
theorem dX5_takes_16 : decode cX5_takes 16 = .ok (.ldc 45, 2) := by decide +kernel
theorem dX5_takes_18 : decode cX5_takes 18 = .ok (.invokevirtual 74, 3) := by decide +kernel
theorem dX5_takes_21 : decode cX5_takes 21 = .ok (.ireturn, 1) := by decide +kernel
theorem dX5_takes_22 : decode cX5_takes 22 = .ok (.aload_n 0, 1) := by decide +kernel
theorem dX5_takes_23 : decode cX5_takes 23 = .ok (.iload_n 1, 1) := by decide +kernel
theorem dX5_takes_24 : decode cX5_takes 24 = .ok (.iload_n 2, 1) := by decide +kernel
theorem dX5_takes_25 : decode cX5_takes 25 = .ok (.invokevirtual 128, 3) := by decide +kernel
theorem dX5_takes_28 : decode cX5_takes 28 = .ok (.ifCond .eq 7, 3) := by decide +kernel
theorem dX5_takes_31 : decode cX5_takes 31 = .ok (.iconst 1, 1) := by decide +kernel
theorem dX5_takes_32 : decode cX5_takes 32 = .ok (.goto 4, 3) := by decide +kernel
theorem dX5_takes_35 : decode cX5_takes 35 = .ok (.iconst 0, 1) := by decide +kernel
theorem dX5_takes_36 : decode cX5_takes 36 = .ok (.ireturn, 1) := by decide +kernel
theorem dX5_isTrue_0 : decode cX5_isTrue 0 = .ok (.aload_n 0, 1) := by decide +kernel
theorem dX5_isTrue_1 : decode cX5_isTrue 1 = .ok (.getfield 7, 3) := by decide +kernel
theorem dX5_isTrue_4 : decode cX5_isTrue 4 = .ok (.iconst 2, 1) := by decide +kernel
theorem dX5_isTrue_5 : decode cX5_isTrue 5 = .ok (.iaload, 1) := by decide +kernel
theorem dX5_isTrue_6 : decode cX5_isTrue 6 = .ok (.iload_n 1, 1) := by decide +kernel
theorem dX5_isTrue_7 : decode cX5_isTrue 7 = .ok (.ishr, 1) := by decide +kernel
theorem dX5_isTrue_8 : decode cX5_isTrue 8 = .ok (.iconst 1, 1) := by decide +kernel
theorem dX5_isTrue_9 : decode cX5_isTrue 9 = .ok (.iand, 1) := by decide +kernel
theorem dX5_isTrue_10 : decode cX5_isTrue 10 = .ok (.iconst 1, 1) := by decide +kernel
theorem dX5_isTrue_11 : decode cX5_isTrue 11 = .ok (.if_icmp .ne 7, 3) := by decide +kernel
theorem dX5_isTrue_14 : decode cX5_isTrue 14 = .ok (.iconst 1, 1) := by decide +kernel
theorem dX5_isTrue_15 : decode cX5_isTrue 15 = .ok (.goto 4, 3) := by decide +kernel
theorem dX5_isTrue_18 : decode cX5_isTrue 18 = .ok (.iconst 0, 1) := by decide +kernel
theorem dX5_isTrue_19 : decode cX5_isTrue 19 = .ok (.ireturn, 1) := by decide +kernel
theorem dX5_hostOf_0 : decode cX5_hostOf 0 = .ok (.iconst (-1), 1) := by decide +kernel
theorem dX5_hostOf_1 : decode cX5_hostOf 1 = .ok (.istore_n 2, 1) := by decide +kernel
theorem dX5_hostOf_2 : decode cX5_hostOf 2 = .ok (.iconst 0, 1) := by decide +kernel
theorem dX5_hostOf_3 : decode cX5_hostOf 3 = .ok (.istore_n 3, 1) := by decide +kernel
theorem dX5_hostOf_4 : decode cX5_hostOf 4 = .ok (.iload_n 3, 1) := by decide +kernel
theorem dX5_hostOf_5 : decode cX5_hostOf 5 = .ok (.bipush 8, 2) := by decide +kernel
theorem dX5_hostOf_7 : decode cX5_hostOf 7 = .ok (.if_icmp .ge 44, 3) := by decide +kernel
theorem dX5_hostOf_10 : decode cX5_hostOf 10 = .ok (.aload_n 0, 1) := by decide +kernel
theorem dX5_hostOf_11 : decode cX5_hostOf 11 = .ok (.iload_n 3, 1) := by decide +kernel
theorem dX5_hostOf_12 : decode cX5_hostOf 12 = .ok (.iload_n 1, 1) := by decide +kernel
theorem dX5_hostOf_13 : decode cX5_hostOf 13 = .ok (.invokevirtual 128, 3) := by decide +kernel
theorem dX5_hostOf_16 : decode cX5_hostOf 16 = .ok (.ifCond .eq 27, 3) := by decide +kernel
theorem dX5_hostOf_19 : decode cX5_hostOf 19 = .ok (.iload_n 2, 1) := by decide +kernel
theorem dX5_hostOf_20 : decode cX5_hostOf 20 = .ok (.iconst (-1), 1) := by decide +kernel
theorem dX5_hostOf_21 : decode cX5_hostOf 21 = .ok (.if_icmp .eq 18, 3) := by decide +kernel
theorem dX5_hostOf_24 : decode cX5_hostOf 24 = .ok (.aload_n 0, 1) := by decide +kernel
theorem dX5_hostOf_25 : decode cX5_hostOf 25 = .ok (.iload_n 3, 1) := by decide +kernel
theorem dX5_hostOf_26 : decode cX5_hostOf 26 = .ok (.iconst 2, 1) := by decide +kernel
theorem dX5_hostOf_27 : decode cX5_hostOf 27 = .ok (.invokevirtual 84, 3) := by decide +kernel
theorem dX5_hostOf_30 : decode cX5_hostOf 30 = .ok (.aload_n 0, 1) := by decide +kernel
theorem dX5_hostOf_31 : decode cX5_hostOf 31 = .ok (.iload_n 2, 1) := by decide +kernel
theorem dX5_hostOf_32 : decode cX5_hostOf 32 = .ok (.iconst 2, 1) := by decide +kernel
theorem dX5_hostOf_33 : decode cX5_hostOf 33 = .ok (.invokevirtual 84, 3) := by decide +kernel
theorem dX5_hostOf_36 : decode cX5_hostOf 36 = .ok (.if_icmp .le 7, 3) := by decide +kernel
theorem dX5_hostOf_39 : decode cX5_hostOf 39 = .ok (.iload_n 3, 1) := by decide +kernel
theorem dX5_hostOf_40 : decode cX5_hostOf 40 = .ok (.goto 4, 3) := by decide +kernel
theorem dX5_hostOf_43 : decode cX5_hostOf 43 = .ok (.iload_n 2, 1) := by decide +kernel
theorem dX5_hostOf_44 : decode cX5_hostOf 44 = .ok (.istore_n 2, 1) := by decide +kernel
theorem dX5_hostOf_45 : decode cX5_hostOf 45 = .ok (.iinc 3 1, 3) := by decide +kernel
theorem dX5_hostOf_48 : decode cX5_hostOf 48 = .ok (.goto (-44), 3) := by decide +kernel
theorem dX5_hostOf_51 : decode cX5_hostOf 51 = .ok (.iload_n 2, 1) := by decide +kernel
theorem dX5_hostOf_52 : decode cX5_hostOf 52 = .ok (.ireturn, 1) := by decide +kernel
theorem dX5_comeIn_0 : decode cX5_comeIn 0 = .ok (.aload_n 0, 1) := by decide +kernel
theorem dX5_comeIn_1 : decode cX5_comeIn 1 = .ok (.iload_n 1, 1) := by decide +kernel
theorem dX5_comeIn_2 : decode cX5_comeIn 2 = .ok (.invokevirtual 106, 3) := by decide +kernel
theorem dX5_comeIn_5 : decode cX5_comeIn 5 = .ok (.ifCond .ne 10, 3) := by decide +kernel
theorem dX5_comeIn_8 : decode cX5_comeIn 8 = .ok (.aload_n 0, 1) := by decide +kernel
theorem dX5_comeIn_9 : decode cX5_comeIn 9 = .ok (.ldc 45, 2) := by decide +kernel
theorem dX5_comeIn_11 : decode cX5_comeIn 11 = .ok (.invokevirtual 74, 3) := by decide +kernel
theorem dX5_comeIn_14 : decode cX5_comeIn 14 = .ok (.ireturn, 1) := by decide +kernel
theorem dX5_comeIn_15 : decode cX5_comeIn 15 = .ok (.aload_n 0, 1) := by decide +kernel
theorem dX5_comeIn_16 : decode cX5_comeIn 16 = .ok (.iload_n 1, 1) := by decide +kernel
theorem dX5_comeIn_17 : decode cX5_comeIn 17 = .ok (.iconst 4, 1) := by decide +kernel
theorem dX5_comeIn_18 : decode cX5_comeIn 18 = .ok (.invokevirtual 78, 3) := by decide +kernel
theorem dX5_comeIn_21 : decode cX5_comeIn 21 = .ok (.iconst (-1), 1) := by decide +kernel
theorem dX5_comeIn_22 : decode cX5_comeIn 22 = .ok (.if_icmp .ne 16, 3) := by decide +kernel
theorem dX5_comeIn_25 : decode cX5_comeIn 25 = .ok (.aload_n 0, 1) := by decide +kernel
theorem dX5_comeIn_26 : decode cX5_comeIn 26 = .ok (.aload_n 0, 1) := by decide +kernel
theorem dX5_comeIn_27 : decode cX5_comeIn 27 = .ok (.iload_n 1, 1) := by decide +kernel
theorem dX5_comeIn_28 : decode cX5_comeIn 28 = .ok (.iconst 1, 1) := by decide +kernel
theorem dX5_comeIn_29 : decode cX5_comeIn 29 = .ok (.invokevirtual 78, 3) := by decide +kernel
theorem dX5_comeIn_32 : decode cX5_comeIn 32 = .ok (.invokevirtual 131, 3) := by decide +kernel
theorem dX5_comeIn_35 : decode cX5_comeIn 35 = .ok (.ifCond .eq 10, 3) := by decide +kernel
theorem dX5_comeIn_38 : decode cX5_comeIn 38 = .ok (.aload_n 0, 1) := by decide +kernel
theorem dX5_comeIn_39 : decode cX5_comeIn 39 = .ok (.ldc 134, 2) := by decide +kernel
theorem dX5_comeIn_41 : decode cX5_comeIn 41 = .ok (.invokevirtual 74, 3) := by decide +kernel
theorem dX5_comeIn_44 : decode cX5_comeIn 44 = .ok (.ireturn, 1) := by decide +kernel
theorem dX5_comeIn_45 : decode cX5_comeIn 45 = .ok (.aload_n 0, 1) := by decide +kernel
theorem dX5_comeIn_46 : decode cX5_comeIn 46 = .ok (.getfield 7, 3) := by decide +kernel
theorem dX5_comeIn_49 : decode cX5_comeIn 49 = .ok (.iload_n 1, 1) := by decide +kernel
theorem dX5_comeIn_50 : decode cX5_comeIn 50 = .ok (.iconst 4, 1) := by decide +kernel
theorem dX5_comeIn_51 : decode cX5_comeIn 51 = .ok (.invokestatic 56, 3) := by decide +kernel
theorem dX5_comeIn_54 : decode cX5_comeIn 54 = .ok (.aload_n 0, 1) := by decide +kernel
theorem dX5_comeIn_55 : decode cX5_comeIn 55 = .ok (.iload_n 1, 1) := by decide +kernel
theorem dX5_comeIn_56 : decode cX5_comeIn 56 = .ok (.invokevirtual 135, 3) := by decide +kernel
theorem dX5_comeIn_59 : decode cX5_comeIn 59 = .ok (.iastore, 1) := by decide +kernel
theorem dX5_comeIn_60 : decode cX5_comeIn 60 = .ok (.aload_n 0, 1) := by decide +kernel
theorem dX5_comeIn_61 : decode cX5_comeIn 61 = .ok (.iload_n 1, 1) := by decide +kernel
theorem dX5_comeIn_62 : decode cX5_comeIn 62 = .ok (.iconst 4, 1) := by decide +kernel
theorem dX5_comeIn_63 : decode cX5_comeIn 63 = .ok (.invokevirtual 78, 3) := by decide +kernel
theorem dX5_comeIn_66 : decode cX5_comeIn 66 = .ok (.ireturn, 1) := by decide +kernel
theorem dX5_heldTo_0 : decode cX5_heldTo 0 = .ok (.iload_n 0, 1) := by decide +kernel
theorem dX5_heldTo_1 : decode cX5_heldTo 1 = .ok (.iload_n 1, 1) := by decide +kernel
theorem dX5_heldTo_2 : decode cX5_heldTo 2 = .ok (.if_icmp .le 7, 3) := by decide +kernel
theorem dX5_heldTo_5 : decode cX5_heldTo 5 = .ok (.iload_n 1, 1) := by decide +kernel
theorem dX5_heldTo_6 : decode cX5_heldTo 6 = .ok (.goto 4, 3) := by decide +kernel
theorem dX5_heldTo_9 : decode cX5_heldTo 9 = .ok (.iload_n 0, 1) := by decide +kernel
theorem dX5_heldTo_10 : decode cX5_heldTo 10 = .ok (.ireturn, 1) := by decide +kernel
theorem dX5_isImproved_0 : decode cX5_isImproved 0 = .ok (.aload_n 0, 1) := by decide +kernel
theorem dX5_isImproved_1 : decode cX5_isImproved 1 = .ok (.getfield 7, 3) := by decide +kernel
theorem dX5_isImproved_4 : decode cX5_isImproved 4 = .ok (.iload_n 1, 1) := by decide +kernel
theorem dX5_isImproved_5 : decode cX5_isImproved 5 = .ok (.iconst 2, 1) := by decide +kernel
theorem dX5_isImproved_6 : decode cX5_isImproved 6 = .ok (.invokestatic 56, 3) := by decide +kernel
theorem dX5_isImproved_9 : decode cX5_isImproved 9 = .ok (.aload_n 0, 1) := by decide +kernel
theorem dX5_isImproved_10 : decode cX5_isImproved 10 = .ok (.iload_n 1, 1) := by decide +kernel
theorem dX5_isImproved_11 : decode cX5_isImproved 11 = .ok (.iconst 2, 1) := by decide +kernel
theorem dX5_isImproved_12 : decode cX5_isImproved 12 = .ok (.invokevirtual 78, 3) := by decide +kernel
theorem dX5_isImproved_15 : decode cX5_isImproved 15 = .ok (.iload_n 2, 1) := by decide +kernel
theorem dX5_isImproved_16 : decode cX5_isImproved 16 = .ok (.iadd, 1) := by decide +kernel
theorem dX5_isImproved_17 : decode cX5_isImproved 17 = .ok (.bipush 99, 2) := by decide +kernel
theorem dX5_isImproved_19 : decode cX5_isImproved 19 = .ok (.invokestatic 138, 3) := by decide +kernel
theorem dX5_isImproved_22 : decode cX5_isImproved 22 = .ok (.iastore, 1) := by decide +kernel
theorem dX5_isImproved_23 : decode cX5_isImproved 23 = .ok (.aload_n 0, 1) := by decide +kernel
theorem dX5_isImproved_24 : decode cX5_isImproved 24 = .ok (.iload_n 1, 1) := by decide +kernel
theorem dX5_isImproved_25 : decode cX5_isImproved 25 = .ok (.iconst 4, 1) := by decide +kernel
theorem dX5_isImproved_26 : decode cX5_isImproved 26 = .ok (.invokevirtual 78, 3) := by decide +kernel
theorem dX5_isImproved_29 : decode cX5_isImproved 29 = .ok (.istore_n 3, 1) := by decide +kernel
theorem dX5_isImproved_30 : decode cX5_isImproved 30 = .ok (.iconst 1, 1) := by decide +kernel
theorem dX5_isImproved_31 : decode cX5_isImproved 31 = .ok (.istore 4, 2) := by decide +kernel
theorem dX5_isImproved_33 : decode cX5_isImproved 33 = .ok (.iload 4, 2) := by decide +kernel
theorem dX5_isImproved_35 : decode cX5_isImproved 35 = .ok (.bipush 8, 2) := by decide +kernel
theorem dX5_isImproved_37 : decode cX5_isImproved 37 = .ok (.if_icmp .ge 41, 3) := by decide +kernel
theorem dX5_isImproved_40 : decode cX5_isImproved 40 = .ok (.iload_n 3, 1) := by decide +kernel
theorem dX5_isImproved_41 : decode cX5_isImproved 41 = .ok (.iload 4, 2) := by decide +kernel
theorem dX5_isImproved_43 : decode cX5_isImproved 43 = .ok (.iadd, 1) := by decide +kernel
theorem dX5_isImproved_44 : decode cX5_isImproved 44 = .ok (.bipush 8, 2) := by decide +kernel
theorem dX5_isImproved_46 : decode cX5_isImproved 46 = .ok (.irem, 1) := by decide +kernel
theorem dX5_isImproved_47 : decode cX5_isImproved 47 = .ok (.istore 5, 2) := by decide +kernel
theorem dX5_isImproved_49 : decode cX5_isImproved 49 = .ok (.aload_n 0, 1) := by decide +kernel
theorem dX5_isImproved_50 : decode cX5_isImproved 50 = .ok (.iload 5, 2) := by decide +kernel
theorem dX5_isImproved_52 : decode cX5_isImproved 52 = .ok (.iload_n 1, 1) := by decide +kernel
theorem dX5_isImproved_53 : decode cX5_isImproved 53 = .ok (.invokevirtual 128, 3) := by decide +kernel
theorem dX5_isImproved_56 : decode cX5_isImproved 56 = .ok (.ifCond .eq 16, 3) := by decide +kernel
theorem dX5_isImproved_59 : decode cX5_isImproved 59 = .ok (.aload_n 0, 1) := by decide +kernel
theorem dX5_isImproved_60 : decode cX5_isImproved 60 = .ok (.getfield 7, 3) := by decide +kernel
theorem dX5_isImproved_63 : decode cX5_isImproved 63 = .ok (.iload_n 1, 1) := by decide +kernel
theorem dX5_isImproved_64 : decode cX5_isImproved 64 = .ok (.iconst 4, 1) := by decide +kernel
theorem dX5_isImproved_65 : decode cX5_isImproved 65 = .ok (.invokestatic 56, 3) := by decide +kernel
theorem dX5_isImproved_68 : decode cX5_isImproved 68 = .ok (.iload 5, 2) := by decide +kernel
theorem dX5_isImproved_70 : decode cX5_isImproved 70 = .ok (.iastore, 1) := by decide +kernel
theorem dX5_isImproved_71 : decode cX5_isImproved 71 = .ok (.return_, 1) := by decide +kernel
theorem dX5_isImproved_72 : decode cX5_isImproved 72 = .ok (.iinc 4 1, 3) := by decide +kernel
theorem dX5_isImproved_75 : decode cX5_isImproved 75 = .ok (.goto (-42), 3) := by decide +kernel
theorem dX5_isImproved_78 : decode cX5_isImproved 78 = .ok (.return_, 1) := by decide +kernel
theorem dX5_improve_0 : decode cX5_improve 0 = .ok (.aload_n 0, 1) := by decide +kernel
theorem dX5_improve_1 : decode cX5_improve 1 = .ok (.iload_n 1, 1) := by decide +kernel
theorem dX5_improve_2 : decode cX5_improve 2 = .ok (.invokevirtual 106, 3) := by decide +kernel
theorem dX5_improve_5 : decode cX5_improve 5 = .ok (.ifCond .eq 15, 3) := by decide +kernel
theorem dX5_improve_8 : decode cX5_improve 8 = .ok (.iload_n 2, 1) := by decide +kernel
theorem dX5_improve_9 : decode cX5_improve 9 = .ok (.i2l, 1) := by decide +kernel
theorem dX5_improve_10 : decode cX5_improve 10 = .ok (.lconst 1, 1) := by decide +kernel
theorem dX5_improve_11 : decode cX5_improve 11 = .ok (.ldc2_w 141, 3) := by decide +kernel
theorem dX5_improve_14 : decode cX5_improve 14 = .ok (.invokestatic 48, 3) := by decide +kernel
theorem dX5_improve_17 : decode cX5_improve 17 = .ok (.ifCond .ne 10, 3) := by decide +kernel
theorem dX5_improve_20 : decode cX5_improve 20 = .ok (.aload_n 0, 1) := by decide +kernel
theorem dX5_improve_21 : decode cX5_improve 21 = .ok (.ldc 45, 2) := by decide +kernel
theorem dX5_improve_23 : decode cX5_improve 23 = .ok (.invokevirtual 74, 3) := by decide +kernel
theorem dX5_improve_26 : decode cX5_improve 26 = .ok (.ireturn, 1) := by decide +kernel
theorem dX5_improve_27 : decode cX5_improve 27 = .ok (.aload_n 0, 1) := by decide +kernel
theorem dX5_improve_28 : decode cX5_improve 28 = .ok (.iload_n 1, 1) := by decide +kernel
theorem dX5_improve_29 : decode cX5_improve 29 = .ok (.iconst 4, 1) := by decide +kernel
theorem dX5_improve_30 : decode cX5_improve 30 = .ok (.invokevirtual 78, 3) := by decide +kernel
theorem dX5_improve_33 : decode cX5_improve 33 = .ok (.iconst (-1), 1) := by decide +kernel
theorem dX5_improve_34 : decode cX5_improve 34 = .ok (.if_icmp .ne 10, 3) := by decide +kernel
theorem dX5_improve_37 : decode cX5_improve 37 = .ok (.aload_n 0, 1) := by decide +kernel
theorem dX5_improve_38 : decode cX5_improve 38 = .ok (.ldc 134, 2) := by decide +kernel
theorem dX5_improve_40 : decode cX5_improve 40 = .ok (.invokevirtual 74, 3) := by decide +kernel
theorem dX5_improve_43 : decode cX5_improve 43 = .ok (.ireturn, 1) := by decide +kernel
theorem dX5_improve_44 : decode cX5_improve 44 = .ok (.aload_n 0, 1) := by decide +kernel
theorem dX5_improve_45 : decode cX5_improve 45 = .ok (.iload_n 1, 1) := by decide +kernel
theorem dX5_improve_46 : decode cX5_improve 46 = .ok (.iload_n 2, 1) := by decide +kernel
theorem dX5_improve_47 : decode cX5_improve 47 = .ok (.invokevirtual 143, 3) := by decide +kernel
theorem dX5_improve_50 : decode cX5_improve 50 = .ok (.aload_n 0, 1) := by decide +kernel
theorem dX5_improve_51 : decode cX5_improve 51 = .ok (.iload_n 1, 1) := by decide +kernel
theorem dX5_improve_52 : decode cX5_improve 52 = .ok (.iconst 4, 1) := by decide +kernel
theorem dX5_improve_53 : decode cX5_improve 53 = .ok (.invokevirtual 78, 3) := by decide +kernel
theorem dX5_improve_56 : decode cX5_improve 56 = .ok (.ireturn, 1) := by decide +kernel
theorem dX5_becomesTrue_0 : decode cX5_becomesTrue 0 = .ok (.iconst 0, 1) := by decide +kernel
theorem dX5_becomesTrue_1 : decode cX5_becomesTrue 1 = .ok (.istore_n 2, 1) := by decide +kernel
theorem dX5_becomesTrue_2 : decode cX5_becomesTrue 2 = .ok (.aload_n 0, 1) := by decide +kernel
theorem dX5_becomesTrue_3 : decode cX5_becomesTrue 3 = .ok (.getfield 7, 3) := by decide +kernel
theorem dX5_becomesTrue_6 : decode cX5_becomesTrue 6 = .ok (.iconst 2, 1) := by decide +kernel
theorem dX5_becomesTrue_7 : decode cX5_becomesTrue 7 = .ok (.dup2, 1) := by decide +kernel
theorem dX5_becomesTrue_8 : decode cX5_becomesTrue 8 = .ok (.iaload, 1) := by decide +kernel
theorem dX5_becomesTrue_9 : decode cX5_becomesTrue 9 = .ok (.iconst 1, 1) := by decide +kernel
theorem dX5_becomesTrue_10 : decode cX5_becomesTrue 10 = .ok (.iload_n 1, 1) := by decide +kernel
theorem dX5_becomesTrue_11 : decode cX5_becomesTrue 11 = .ok (.ishl, 1) := by decide +kernel
theorem dX5_becomesTrue_12 : decode cX5_becomesTrue 12 = .ok (.ior, 1) := by decide +kernel
theorem dX5_becomesTrue_13 : decode cX5_becomesTrue 13 = .ok (.iastore, 1) := by decide +kernel
theorem dX5_becomesTrue_14 : decode cX5_becomesTrue 14 = .ok (.iconst 0, 1) := by decide +kernel
theorem dX5_becomesTrue_15 : decode cX5_becomesTrue 15 = .ok (.istore_n 3, 1) := by decide +kernel
theorem dX5_becomesTrue_16 : decode cX5_becomesTrue 16 = .ok (.iload_n 3, 1) := by decide +kernel
theorem dX5_becomesTrue_17 : decode cX5_becomesTrue 17 = .ok (.aload_n 0, 1) := by decide +kernel
theorem dX5_becomesTrue_18 : decode cX5_becomesTrue 18 = .ok (.getfield 7, 3) := by decide +kernel
theorem dX5_becomesTrue_21 : decode cX5_becomesTrue 21 = .ok (.iconst 0, 1) := by decide +kernel
theorem dX5_becomesTrue_22 : decode cX5_becomesTrue 22 = .ok (.iaload, 1) := by decide +kernel
theorem dX5_becomesTrue_23 : decode cX5_becomesTrue 23 = .ok (.if_icmp .ge 43, 3) := by decide +kernel
theorem dX5_becomesTrue_26 : decode cX5_becomesTrue 26 = .ok (.aload_n 0, 1) := by decide +kernel
theorem dX5_becomesTrue_27 : decode cX5_becomesTrue 27 = .ok (.iload_n 3, 1) := by decide +kernel
theorem dX5_becomesTrue_28 : decode cX5_becomesTrue 28 = .ok (.iconst 1, 1) := by decide +kernel
theorem dX5_becomesTrue_29 : decode cX5_becomesTrue 29 = .ok (.invokevirtual 78, 3) := by decide +kernel
theorem dX5_becomesTrue_32 : decode cX5_becomesTrue 32 = .ok (.iload_n 1, 1) := by decide +kernel
theorem dX5_becomesTrue_33 : decode cX5_becomesTrue 33 = .ok (.if_icmp .ne 27, 3) := by decide +kernel
theorem dX5_becomesTrue_36 : decode cX5_becomesTrue 36 = .ok (.aload_n 0, 1) := by decide +kernel
theorem dX5_becomesTrue_37 : decode cX5_becomesTrue 37 = .ok (.iload_n 3, 1) := by decide +kernel
theorem dX5_becomesTrue_38 : decode cX5_becomesTrue 38 = .ok (.iconst 4, 1) := by decide +kernel
theorem dX5_becomesTrue_39 : decode cX5_becomesTrue 39 = .ok (.invokevirtual 78, 3) := by decide +kernel
theorem dX5_becomesTrue_42 : decode cX5_becomesTrue 42 = .ok (.iconst (-1), 1) := by decide +kernel
theorem dX5_becomesTrue_43 : decode cX5_becomesTrue 43 = .ok (.if_icmp .eq 17, 3) := by decide +kernel
theorem dX5_becomesTrue_46 : decode cX5_becomesTrue 46 = .ok (.aload_n 0, 1) := by decide +kernel
theorem dX5_becomesTrue_47 : decode cX5_becomesTrue 47 = .ok (.getfield 7, 3) := by decide +kernel
theorem dX5_becomesTrue_50 : decode cX5_becomesTrue 50 = .ok (.iload_n 3, 1) := by decide +kernel
theorem dX5_becomesTrue_51 : decode cX5_becomesTrue 51 = .ok (.iconst 4, 1) := by decide +kernel
theorem dX5_becomesTrue_52 : decode cX5_becomesTrue 52 = .ok (.invokestatic 56, 3) := by decide +kernel
theorem dX5_becomesTrue_55 : decode cX5_becomesTrue 55 = .ok (.iconst (-1), 1) := by decide +kernel
theorem dX5_becomesTrue_56 : decode cX5_becomesTrue 56 = .ok (.iastore, 1) := by decide +kernel
theorem dX5_becomesTrue_57 : decode cX5_becomesTrue 57 = .ok (.iinc 2 1, 3) := by decide +kernel
theorem dX5_becomesTrue_60 : decode cX5_becomesTrue 60 = .ok (.iinc 3 1, 3) := by decide +kernel
theorem dX5_becomesTrue_63 : decode cX5_becomesTrue 63 = .ok (.goto (-47), 3) := by decide +kernel
theorem dX5_becomesTrue_66 : decode cX5_becomesTrue 66 = .ok (.iload_n 2, 1) := by decide +kernel
theorem dX5_becomesTrue_67 : decode cX5_becomesTrue 67 = .ok (.ireturn, 1) := by decide +kernel
theorem dX5_comesTrue_0 : decode cX5_comesTrue 0 = .ok (.iload_n 1, 1) := by decide +kernel
theorem dX5_comesTrue_1 : decode cX5_comesTrue 1 = .ok (.invokestatic 99, 3) := by decide +kernel
theorem dX5_comesTrue_4 : decode cX5_comesTrue 4 = .ok (.ifCond .eq 11, 3) := by decide +kernel
theorem dX5_comesTrue_7 : decode cX5_comesTrue 7 = .ok (.aload_n 0, 1) := by decide +kernel
theorem dX5_comesTrue_8 : decode cX5_comesTrue 8 = .ok (.iload_n 1, 1) := by decide +kernel
theorem dX5_comesTrue_9 : decode cX5_comesTrue 9 = .ok (.invokevirtual 147, 3) := by decide +kernel
theorem dX5_comesTrue_12 : decode cX5_comesTrue 12 = .ok (.goto 9, 3) := by decide +kernel
theorem dX5_comesTrue_15 : decode cX5_comesTrue 15 = .ok (.aload_n 0, 1) := by decide +kernel
theorem dX5_comesTrue_16 : decode cX5_comesTrue 16 = .ok (.ldc 45, 2) := by decide +kernel
theorem dX5_comesTrue_18 : decode cX5_comesTrue 18 = .ok (.invokevirtual 74, 3) := by decide +kernel
theorem dX5_comesTrue_21 : decode cX5_comesTrue 21 = .ok (.ireturn, 1) := by decide +kernel
theorem dX5_forget_0 : decode cX5_forget 0 = .ok (.iload_n 1, 1) := by decide +kernel
theorem dX5_forget_1 : decode cX5_forget 1 = .ok (.invokestatic 99, 3) := by decide +kernel
theorem dX5_forget_4 : decode cX5_forget 4 = .ok (.ifCond .ne 10, 3) := by decide +kernel
theorem dX5_forget_7 : decode cX5_forget 7 = .ok (.aload_n 0, 1) := by decide +kernel
theorem dX5_forget_8 : decode cX5_forget 8 = .ok (.ldc 45, 2) := by decide +kernel
theorem dX5_forget_10 : decode cX5_forget 10 = .ok (.invokevirtual 74, 3) := by decide +kernel
theorem dX5_forget_13 : decode cX5_forget 13 = .ok (.ireturn, 1) := by decide +kernel
theorem dX5_forget_14 : decode cX5_forget 14 = .ok (.aload_n 0, 1) := by decide +kernel
theorem dX5_forget_15 : decode cX5_forget 15 = .ok (.iload_n 1, 1) := by decide +kernel
theorem dX5_forget_16 : decode cX5_forget 16 = .ok (.invokevirtual 131, 3) := by decide +kernel
theorem dX5_forget_19 : decode cX5_forget 19 = .ok (.ifCond .eq 7, 3) := by decide +kernel
theorem dX5_forget_22 : decode cX5_forget 22 = .ok (.iconst 1, 1) := by decide +kernel
theorem dX5_forget_23 : decode cX5_forget 23 = .ok (.goto 4, 3) := by decide +kernel
theorem dX5_forget_26 : decode cX5_forget 26 = .ok (.iconst 0, 1) := by decide +kernel
theorem dX5_forget_27 : decode cX5_forget 27 = .ok (.istore_n 2, 1) := by decide +kernel
theorem dX5_forget_28 : decode cX5_forget 28 = .ok (.aload_n 0, 1) := by decide +kernel
theorem dX5_forget_29 : decode cX5_forget 29 = .ok (.getfield 7, 3) := by decide +kernel
theorem dX5_forget_32 : decode cX5_forget 32 = .ok (.iconst 2, 1) := by decide +kernel
theorem dX5_forget_33 : decode cX5_forget 33 = .ok (.dup2, 1) := by decide +kernel
theorem dX5_forget_34 : decode cX5_forget 34 = .ok (.iaload, 1) := by decide +kernel
theorem dX5_forget_35 : decode cX5_forget 35 = .ok (.iconst 1, 1) := by decide +kernel
theorem dX5_forget_36 : decode cX5_forget 36 = .ok (.iload_n 1, 1) := by decide +kernel
theorem dX5_forget_37 : decode cX5_forget 37 = .ok (.ishl, 1) := by decide +kernel
theorem dX5_forget_38 : decode cX5_forget 38 = .ok (.iconst (-1), 1) := by decide +kernel
theorem dX5_forget_39 : decode cX5_forget 39 = .ok (.ixor, 1) := by decide +kernel
theorem dX5_forget_40 : decode cX5_forget 40 = .ok (.iand, 1) := by decide +kernel
theorem dX5_forget_41 : decode cX5_forget 41 = .ok (.iastore, 1) := by decide +kernel
theorem dX5_forget_42 : decode cX5_forget 42 = .ok (.iload_n 2, 1) := by decide +kernel
theorem dX5_forget_43 : decode cX5_forget 43 = .ok (.ireturn, 1) := by decide +kernel
theorem dX5_feeds_0 : decode cX5_feeds 0 = .ok (.aload_n 0, 1) := by decide +kernel
theorem dX5_feeds_1 : decode cX5_feeds 1 = .ok (.iload_n 1, 1) := by decide +kernel
theorem dX5_feeds_2 : decode cX5_feeds 2 = .ok (.iconst 4, 1) := by decide +kernel
theorem dX5_feeds_3 : decode cX5_feeds 3 = .ok (.invokevirtual 78, 3) := by decide +kernel
theorem dX5_feeds_6 : decode cX5_feeds 6 = .ok (.iconst 1, 1) := by decide +kernel
theorem dX5_feeds_7 : decode cX5_feeds 7 = .ok (.invokestatic 41, 3) := by decide +kernel
theorem dX5_feeds_10 : decode cX5_feeds 10 = .ok (.istore_n 2, 1) := by decide +kernel
theorem dX5_feeds_11 : decode cX5_feeds 11 = .ok (.aload_n 0, 1) := by decide +kernel
theorem dX5_feeds_12 : decode cX5_feeds 12 = .ok (.getfield 7, 3) := by decide +kernel
theorem dX5_feeds_15 : decode cX5_feeds 15 = .ok (.iload_n 2, 1) := by decide +kernel
theorem dX5_feeds_16 : decode cX5_feeds 16 = .ok (.iaload, 1) := by decide +kernel
theorem dX5_feeds_17 : decode cX5_feeds 17 = .ok (.aload_n 0, 1) := by decide +kernel
theorem dX5_feeds_18 : decode cX5_feeds 18 = .ok (.iload_n 1, 1) := by decide +kernel
theorem dX5_feeds_19 : decode cX5_feeds 19 = .ok (.invokevirtual 81, 3) := by decide +kernel
theorem dX5_feeds_22 : decode cX5_feeds 22 = .ok (.if_icmp .ge 22, 3) := by decide +kernel
theorem dX5_feeds_25 : decode cX5_feeds 25 = .ok (.aload_n 0, 1) := by decide +kernel
theorem dX5_feeds_26 : decode cX5_feeds 26 = .ok (.getfield 7, 3) := by decide +kernel
theorem dX5_feeds_29 : decode cX5_feeds 29 = .ok (.iload_n 2, 1) := by decide +kernel
theorem dX5_feeds_30 : decode cX5_feeds 30 = .ok (.iconst 0, 1) := by decide +kernel
theorem dX5_feeds_31 : decode cX5_feeds 31 = .ok (.iastore, 1) := by decide +kernel
theorem dX5_feeds_32 : decode cX5_feeds 32 = .ok (.aload_n 0, 1) := by decide +kernel
theorem dX5_feeds_33 : decode cX5_feeds 33 = .ok (.getfield 7, 3) := by decide +kernel
theorem dX5_feeds_36 : decode cX5_feeds 36 = .ok (.iload_n 1, 1) := by decide +kernel
theorem dX5_feeds_37 : decode cX5_feeds 37 = .ok (.iconst 4, 1) := by decide +kernel
theorem dX5_feeds_38 : decode cX5_feeds 38 = .ok (.invokestatic 56, 3) := by decide +kernel
theorem dX5_feeds_41 : decode cX5_feeds 41 = .ok (.iconst (-1), 1) := by decide +kernel
theorem dX5_feeds_42 : decode cX5_feeds 42 = .ok (.iastore, 1) := by decide +kernel
theorem dX5_feeds_43 : decode cX5_feeds 43 = .ok (.return_, 1) := by decide +kernel
theorem dX5_feeds_44 : decode cX5_feeds 44 = .ok (.aload_n 0, 1) := by decide +kernel
theorem dX5_feeds_45 : decode cX5_feeds 45 = .ok (.getfield 7, 3) := by decide +kernel
theorem dX5_feeds_48 : decode cX5_feeds 48 = .ok (.iload_n 2, 1) := by decide +kernel
theorem dX5_feeds_49 : decode cX5_feeds 49 = .ok (.dup2, 1) := by decide +kernel
theorem dX5_feeds_50 : decode cX5_feeds 50 = .ok (.iaload, 1) := by decide +kernel
theorem dX5_feeds_51 : decode cX5_feeds 51 = .ok (.aload_n 0, 1) := by decide +kernel
theorem dX5_feeds_52 : decode cX5_feeds 52 = .ok (.iload_n 1, 1) := by decide +kernel
theorem dX5_feeds_53 : decode cX5_feeds 53 = .ok (.invokevirtual 81, 3) := by decide +kernel
theorem dX5_feeds_56 : decode cX5_feeds 56 = .ok (.isub, 1) := by decide +kernel
theorem dX5_feeds_57 : decode cX5_feeds 57 = .ok (.iastore, 1) := by decide +kernel
theorem dX5_feeds_58 : decode cX5_feeds 58 = .ok (.aload_n 0, 1) := by decide +kernel
theorem dX5_feeds_59 : decode cX5_feeds 59 = .ok (.getfield 7, 3) := by decide +kernel
theorem dX5_feeds_62 : decode cX5_feeds 62 = .ok (.iload_n 1, 1) := by decide +kernel
theorem dX5_feeds_63 : decode cX5_feeds 63 = .ok (.iconst 2, 1) := by decide +kernel
theorem dX5_feeds_64 : decode cX5_feeds 64 = .ok (.invokestatic 56, 3) := by decide +kernel
theorem dX5_feeds_67 : decode cX5_feeds 67 = .ok (.aload_n 0, 1) := by decide +kernel
theorem dX5_feeds_68 : decode cX5_feeds 68 = .ok (.iload_n 1, 1) := by decide +kernel
theorem dX5_feeds_69 : decode cX5_feeds 69 = .ok (.iconst 2, 1) := by decide +kernel
theorem dX5_feeds_70 : decode cX5_feeds 70 = .ok (.invokevirtual 78, 3) := by decide +kernel
theorem dX5_feeds_73 : decode cX5_feeds 73 = .ok (.aload_n 0, 1) := by decide +kernel
theorem dX5_feeds_74 : decode cX5_feeds 74 = .ok (.iload_n 1, 1) := by decide +kernel
theorem dX5_feeds_75 : decode cX5_feeds 75 = .ok (.invokevirtual 112, 3) := by decide +kernel
theorem dX5_feeds_78 : decode cX5_feeds 78 = .ok (.iadd, 1) := by decide +kernel
theorem dX5_feeds_79 : decode cX5_feeds 79 = .ok (.bipush 99, 2) := by decide +kernel
theorem dX5_feeds_81 : decode cX5_feeds 81 = .ok (.invokestatic 138, 3) := by decide +kernel
theorem dX5_feeds_84 : decode cX5_feeds 84 = .ok (.iastore, 1) := by decide +kernel
theorem dX5_feeds_85 : decode cX5_feeds 85 = .ok (.return_, 1) := by decide +kernel
theorem dX5_isOnRoad_0 : decode cX5_isOnRoad 0 = .ok (.iconst 0, 1) := by decide +kernel
theorem dX5_isOnRoad_1 : decode cX5_isOnRoad 1 = .ok (.istore_n 2, 1) := by decide +kernel
theorem dX5_isOnRoad_2 : decode cX5_isOnRoad 2 = .ok (.iconst 0, 1) := by decide +kernel
theorem dX5_isOnRoad_3 : decode cX5_isOnRoad 3 = .ok (.istore_n 3, 1) := by decide +kernel
theorem dX5_isOnRoad_4 : decode cX5_isOnRoad 4 = .ok (.iload_n 3, 1) := by decide +kernel
theorem dX5_isOnRoad_5 : decode cX5_isOnRoad 5 = .ok (.aload_n 0, 1) := by decide +kernel
theorem dX5_isOnRoad_6 : decode cX5_isOnRoad 6 = .ok (.getfield 7, 3) := by decide +kernel
theorem dX5_isOnRoad_9 : decode cX5_isOnRoad 9 = .ok (.iconst 0, 1) := by decide +kernel
theorem dX5_isOnRoad_10 : decode cX5_isOnRoad 10 = .ok (.iaload, 1) := by decide +kernel
theorem dX5_isOnRoad_11 : decode cX5_isOnRoad 11 = .ok (.if_icmp .ge 39, 3) := by decide +kernel
theorem dX5_isOnRoad_14 : decode cX5_isOnRoad 14 = .ok (.iload_n 2, 1) := by decide +kernel
theorem dX5_isOnRoad_15 : decode cX5_isOnRoad 15 = .ok (.ifCond .ne 23, 3) := by decide +kernel
theorem dX5_isOnRoad_18 : decode cX5_isOnRoad 18 = .ok (.aload_n 0, 1) := by decide +kernel
theorem dX5_isOnRoad_19 : decode cX5_isOnRoad 19 = .ok (.iload_n 3, 1) := by decide +kernel
theorem dX5_isOnRoad_20 : decode cX5_isOnRoad 20 = .ok (.iconst 1, 1) := by decide +kernel
theorem dX5_isOnRoad_21 : decode cX5_isOnRoad 21 = .ok (.invokevirtual 78, 3) := by decide +kernel
theorem dX5_isOnRoad_24 : decode cX5_isOnRoad 24 = .ok (.iload_n 1, 1) := by decide +kernel
theorem dX5_isOnRoad_25 : decode cX5_isOnRoad 25 = .ok (.if_icmp .ne 17, 3) := by decide +kernel
theorem dX5_isOnRoad_28 : decode cX5_isOnRoad 28 = .ok (.aload_n 0, 1) := by decide +kernel
theorem dX5_isOnRoad_29 : decode cX5_isOnRoad 29 = .ok (.iload_n 3, 1) := by decide +kernel
theorem dX5_isOnRoad_30 : decode cX5_isOnRoad 30 = .ok (.iconst 4, 1) := by decide +kernel
theorem dX5_isOnRoad_31 : decode cX5_isOnRoad 31 = .ok (.invokevirtual 78, 3) := by decide +kernel
theorem dX5_isOnRoad_34 : decode cX5_isOnRoad 34 = .ok (.iconst (-1), 1) := by decide +kernel
theorem dX5_isOnRoad_35 : decode cX5_isOnRoad 35 = .ok (.if_icmp .ne 7, 3) := by decide +kernel
theorem dX5_isOnRoad_38 : decode cX5_isOnRoad 38 = .ok (.iconst 1, 1) := by decide +kernel
theorem dX5_isOnRoad_39 : decode cX5_isOnRoad 39 = .ok (.goto 4, 3) := by decide +kernel
theorem dX5_isOnRoad_42 : decode cX5_isOnRoad 42 = .ok (.iconst 0, 1) := by decide +kernel
theorem dX5_isOnRoad_43 : decode cX5_isOnRoad 43 = .ok (.istore_n 2, 1) := by decide +kernel
theorem dX5_isOnRoad_44 : decode cX5_isOnRoad 44 = .ok (.iinc 3 1, 3) := by decide +kernel
theorem dX5_isOnRoad_47 : decode cX5_isOnRoad 47 = .ok (.goto (-43), 3) := by decide +kernel
theorem dX5_isOnRoad_50 : decode cX5_isOnRoad 50 = .ok (.iload_n 2, 1) := by decide +kernel
theorem dX5_isOnRoad_51 : decode cX5_isOnRoad 51 = .ok (.ireturn, 1) := by decide +kernel
theorem dX5_lodgersOf_0 : decode cX5_lodgersOf 0 = .ok (.iconst 0, 1) := by decide +kernel
theorem dX5_lodgersOf_1 : decode cX5_lodgersOf 1 = .ok (.istore_n 3, 1) := by decide +kernel
theorem dX5_lodgersOf_2 : decode cX5_lodgersOf 2 = .ok (.iconst 0, 1) := by decide +kernel
theorem dX5_lodgersOf_3 : decode cX5_lodgersOf 3 = .ok (.istore 4, 2) := by decide +kernel
theorem dX5_lodgersOf_5 : decode cX5_lodgersOf 5 = .ok (.iload 4, 2) := by decide +kernel
theorem dX5_lodgersOf_7 : decode cX5_lodgersOf 7 = .ok (.aload_n 0, 1) := by decide +kernel
theorem dX5_lodgersOf_8 : decode cX5_lodgersOf 8 = .ok (.getfield 7, 3) := by decide +kernel
theorem dX5_lodgersOf_11 : decode cX5_lodgersOf 11 = .ok (.iconst 0, 1) := by decide +kernel
theorem dX5_lodgersOf_12 : decode cX5_lodgersOf 12 = .ok (.iaload, 1) := by decide +kernel
theorem dX5_lodgersOf_13 : decode cX5_lodgersOf 13 = .ok (.if_icmp .ge 42, 3) := by decide +kernel
theorem dX5_lodgersOf_16 : decode cX5_lodgersOf 16 = .ok (.iload_n 3, 1) := by decide +kernel
theorem dX5_lodgersOf_17 : decode cX5_lodgersOf 17 = .ok (.aload_n 0, 1) := by decide +kernel
theorem dX5_lodgersOf_18 : decode cX5_lodgersOf 18 = .ok (.iload 4, 2) := by decide +kernel
theorem dX5_lodgersOf_20 : decode cX5_lodgersOf 20 = .ok (.iconst 4, 1) := by decide +kernel
theorem dX5_lodgersOf_21 : decode cX5_lodgersOf 21 = .ok (.invokevirtual 78, 3) := by decide +kernel
theorem dX5_lodgersOf_24 : decode cX5_lodgersOf 24 = .ok (.iload_n 1, 1) := by decide +kernel
theorem dX5_lodgersOf_25 : decode cX5_lodgersOf 25 = .ok (.if_icmp .ne 21, 3) := by decide +kernel
theorem dX5_lodgersOf_28 : decode cX5_lodgersOf 28 = .ok (.aload_n 0, 1) := by decide +kernel
theorem dX5_lodgersOf_29 : decode cX5_lodgersOf 29 = .ok (.iload 4, 2) := by decide +kernel
theorem dX5_lodgersOf_31 : decode cX5_lodgersOf 31 = .ok (.iconst 1, 1) := by decide +kernel
theorem dX5_lodgersOf_32 : decode cX5_lodgersOf 32 = .ok (.invokevirtual 78, 3) := by decide +kernel
theorem dX5_lodgersOf_35 : decode cX5_lodgersOf 35 = .ok (.iload_n 2, 1) := by decide +kernel
theorem dX5_lodgersOf_36 : decode cX5_lodgersOf 36 = .ok (.if_icmp .ne 10, 3) := by decide +kernel
theorem dX5_lodgersOf_39 : decode cX5_lodgersOf 39 = .ok (.iconst 1, 1) := by decide +kernel
theorem dX5_lodgersOf_40 : decode cX5_lodgersOf 40 = .ok (.iload 4, 2) := by decide +kernel
theorem dX5_lodgersOf_42 : decode cX5_lodgersOf 42 = .ok (.ishl, 1) := by decide +kernel
theorem dX5_lodgersOf_43 : decode cX5_lodgersOf 43 = .ok (.goto 4, 3) := by decide +kernel
theorem dX5_lodgersOf_46 : decode cX5_lodgersOf 46 = .ok (.iconst 0, 1) := by decide +kernel
theorem dX5_lodgersOf_47 : decode cX5_lodgersOf 47 = .ok (.ior, 1) := by decide +kernel
theorem dX5_lodgersOf_48 : decode cX5_lodgersOf 48 = .ok (.istore_n 3, 1) := by decide +kernel
theorem dX5_lodgersOf_49 : decode cX5_lodgersOf 49 = .ok (.iinc 4 1, 3) := by decide +kernel
theorem dX5_lodgersOf_52 : decode cX5_lodgersOf 52 = .ok (.goto (-47), 3) := by decide +kernel
theorem dX5_lodgersOf_55 : decode cX5_lodgersOf 55 = .ok (.iload_n 3, 1) := by decide +kernel
theorem dX5_lodgersOf_56 : decode cX5_lodgersOf 56 = .ok (.ireturn, 1) := by decide +kernel
theorem dX5_makesThird_0 : decode cX5_makesThird 0 = .ok (.iconst 0, 1) := by decide +kernel
theorem dX5_makesThird_1 : decode cX5_makesThird 1 = .ok (.istore_n 2, 1) := by decide +kernel
theorem dX5_makesThird_2 : decode cX5_makesThird 2 = .ok (.iload_n 2, 1) := by decide +kernel
theorem dX5_makesThird_3 : decode cX5_makesThird 3 = .ok (.bipush 16, 2) := by decide +kernel
theorem dX5_makesThird_5 : decode cX5_makesThird 5 = .ok (.if_icmp .ge 22, 3) := by decide +kernel
theorem dX5_makesThird_8 : decode cX5_makesThird 8 = .ok (.aload_n 0, 1) := by decide +kernel
theorem dX5_makesThird_9 : decode cX5_makesThird 9 = .ok (.iload_n 1, 1) := by decide +kernel
theorem dX5_makesThird_10 : decode cX5_makesThird 10 = .ok (.iload_n 2, 1) := by decide +kernel
theorem dX5_makesThird_11 : decode cX5_makesThird 11 = .ok (.invokevirtual 150, 3) := by decide +kernel
theorem dX5_makesThird_14 : decode cX5_makesThird 14 = .ok (.invokestatic 122, 3) := by decide +kernel
theorem dX5_makesThird_17 : decode cX5_makesThird 17 = .ok (.iconst 2, 1) := by decide +kernel
theorem dX5_makesThird_18 : decode cX5_makesThird 18 = .ok (.if_icmp .ge 9, 3) := by decide +kernel
theorem dX5_makesThird_21 : decode cX5_makesThird 21 = .ok (.iinc 2 1, 3) := by decide +kernel
theorem dX5_makesThird_24 : decode cX5_makesThird 24 = .ok (.goto (-22), 3) := by decide +kernel
theorem dX5_makesThird_27 : decode cX5_makesThird 27 = .ok (.iload_n 2, 1) := by decide +kernel
theorem dX5_makesThird_28 : decode cX5_makesThird 28 = .ok (.bipush 16, 2) := by decide +kernel
theorem dX5_makesThird_30 : decode cX5_makesThird 30 = .ok (.if_icmp .eq 22, 3) := by decide +kernel
theorem dX5_makesThird_33 : decode cX5_makesThird 33 = .ok (.aload_n 0, 1) := by decide +kernel
theorem dX5_makesThird_34 : decode cX5_makesThird 34 = .ok (.iload_n 2, 1) := by decide +kernel
theorem dX5_makesThird_35 : decode cX5_makesThird 35 = .ok (.invokevirtual 153, 3) := by decide +kernel
theorem dX5_makesThird_38 : decode cX5_makesThird 38 = .ok (.ifCond .ne 14, 3) := by decide +kernel
theorem dX5_makesThird_41 : decode cX5_makesThird 41 = .ok (.aload_n 0, 1) := by decide +kernel
theorem dX5_makesThird_42 : decode cX5_makesThird 42 = .ok (.getfield 7, 3) := by decide +kernel
theorem dX5_makesThird_45 : decode cX5_makesThird 45 = .ok (.iconst 0, 1) := by decide +kernel
theorem dX5_makesThird_46 : decode cX5_makesThird 46 = .ok (.iaload, 1) := by decide +kernel
theorem dX5_makesThird_47 : decode cX5_makesThird 47 = .ok (.bipush 10, 2) := by decide +kernel
theorem dX5_makesThird_49 : decode cX5_makesThird 49 = .ok (.if_icmp .ne 4, 3) := by decide +kernel
theorem dX5_makesThird_52 : decode cX5_makesThird 52 = .ok (.return_, 1) := by decide +kernel
theorem dX5_makesThird_53 : decode cX5_makesThird 53 = .ok (.aload_n 0, 1) := by decide +kernel
theorem dX5_makesThird_54 : decode cX5_makesThird 54 = .ok (.iload_n 1, 1) := by decide +kernel
theorem dX5_makesThird_55 : decode cX5_makesThird 55 = .ok (.iload_n 2, 1) := by decide +kernel
theorem dX5_makesThird_56 : decode cX5_makesThird 56 = .ok (.invokevirtual 150, 3) := by decide +kernel
theorem dX5_makesThird_59 : decode cX5_makesThird 59 = .ok (.istore_n 3, 1) := by decide +kernel
theorem dX5_makesThird_60 : decode cX5_makesThird 60 = .ok (.iconst 0, 1) := by decide +kernel
theorem dX5_makesThird_61 : decode cX5_makesThird 61 = .ok (.istore 4, 2) := by decide +kernel
theorem dX5_makesThird_63 : decode cX5_makesThird 63 = .ok (.iconst 0, 1) := by decide +kernel
theorem dX5_makesThird_64 : decode cX5_makesThird 64 = .ok (.istore 5, 2) := by decide +kernel
theorem dX5_makesThird_66 : decode cX5_makesThird 66 = .ok (.iconst 0, 1) := by decide +kernel
theorem dX5_makesThird_67 : decode cX5_makesThird 67 = .ok (.istore 6, 2) := by decide +kernel
theorem dX5_makesThird_69 : decode cX5_makesThird 69 = .ok (.iload 6, 2) := by decide +kernel
theorem dX5_makesThird_71 : decode cX5_makesThird 71 = .ok (.aload_n 0, 1) := by decide +kernel
theorem dX5_makesThird_72 : decode cX5_makesThird 72 = .ok (.getfield 7, 3) := by decide +kernel
theorem dX5_makesThird_75 : decode cX5_makesThird 75 = .ok (.iconst 0, 1) := by decide +kernel
theorem dX5_makesThird_76 : decode cX5_makesThird 76 = .ok (.iaload, 1) := by decide +kernel
theorem dX5_makesThird_77 : decode cX5_makesThird 77 = .ok (.if_icmp .ge 40, 3) := by decide +kernel
theorem dX5_makesThird_80 : decode cX5_makesThird 80 = .ok (.iload 5, 2) := by decide +kernel
theorem dX5_makesThird_82 : decode cX5_makesThird 82 = .ok (.iconst 2, 1) := by decide +kernel
theorem dX5_makesThird_83 : decode cX5_makesThird 83 = .ok (.if_icmp .ge 34, 3) := by decide +kernel
theorem dX5_makesThird_86 : decode cX5_makesThird 86 = .ok (.iload_n 3, 1) := by decide +kernel
theorem dX5_makesThird_87 : decode cX5_makesThird 87 = .ok (.iload 6, 2) := by decide +kernel
theorem dX5_makesThird_89 : decode cX5_makesThird 89 = .ok (.ishr, 1) := by decide +kernel
theorem dX5_makesThird_90 : decode cX5_makesThird 90 = .ok (.iconst 1, 1) := by decide +kernel
theorem dX5_makesThird_91 : decode cX5_makesThird 91 = .ok (.iand, 1) := by decide +kernel
theorem dX5_makesThird_92 : decode cX5_makesThird 92 = .ok (.iconst 1, 1) := by decide +kernel
theorem dX5_makesThird_93 : decode cX5_makesThird 93 = .ok (.if_icmp .ne 18, 3) := by decide +kernel
theorem dX5_makesThird_96 : decode cX5_makesThird 96 = .ok (.iload 4, 2) := by decide +kernel
theorem dX5_makesThird_98 : decode cX5_makesThird 98 = .ok (.aload_n 0, 1) := by decide +kernel
theorem dX5_makesThird_99 : decode cX5_makesThird 99 = .ok (.iload 6, 2) := by decide +kernel
theorem dX5_makesThird_101 : decode cX5_makesThird 101 = .ok (.iconst 2, 1) := by decide +kernel
theorem dX5_makesThird_102 : decode cX5_makesThird 102 = .ok (.invokevirtual 78, 3) := by decide +kernel
theorem dX5_makesThird_105 : decode cX5_makesThird 105 = .ok (.iadd, 1) := by decide +kernel
theorem dX5_makesThird_106 : decode cX5_makesThird 106 = .ok (.istore 4, 2) := by decide +kernel
theorem dX5_makesThird_108 : decode cX5_makesThird 108 = .ok (.iinc 5 1, 3) := by decide +kernel
theorem dX5_makesThird_111 : decode cX5_makesThird 111 = .ok (.iinc 6 1, 3) := by decide +kernel
theorem dX5_makesThird_114 : decode cX5_makesThird 114 = .ok (.goto (-45), 3) := by decide +kernel
theorem dX5_makesThird_117 : decode cX5_makesThird 117 = .ok (.aload_n 0, 1) := by decide +kernel
theorem dX5_makesThird_118 : decode cX5_makesThird 118 = .ok (.iconst 0, 1) := by decide +kernel
theorem dX5_makesThird_119 : decode cX5_makesThird 119 = .ok (.iload_n 2, 1) := by decide +kernel
theorem dX5_makesThird_120 : decode cX5_makesThird 120 = .ok (.invokevirtual 103, 3) := by decide +kernel
theorem dX5_makesThird_123 : decode cX5_makesThird 123 = .ok (.istore 6, 2) := by decide +kernel
theorem dX5_makesThird_125 : decode cX5_makesThird 125 = .ok (.aload_n 0, 1) := by decide +kernel
theorem dX5_makesThird_126 : decode cX5_makesThird 126 = .ok (.getfield 7, 3) := by decide +kernel
theorem dX5_makesThird_129 : decode cX5_makesThird 129 = .ok (.iload 6, 2) := by decide +kernel
theorem dX5_makesThird_131 : decode cX5_makesThird 131 = .ok (.iconst 2, 1) := by decide +kernel
theorem dX5_makesThird_132 : decode cX5_makesThird 132 = .ok (.invokestatic 56, 3) := by decide +kernel
theorem dX5_makesThird_135 : decode cX5_makesThird 135 = .ok (.iload 4, 2) := by decide +kernel
theorem dX5_makesThird_137 : decode cX5_makesThird 137 = .ok (.iconst 2, 1) := by decide +kernel
theorem dX5_makesThird_138 : decode cX5_makesThird 138 = .ok (.idiv, 1) := by decide +kernel
theorem dX5_makesThird_139 : decode cX5_makesThird 139 = .ok (.iastore, 1) := by decide +kernel
theorem dX5_makesThird_140 : decode cX5_makesThird 140 = .ok (.return_, 1) := by decide +kernel
theorem dX5_day_0 : decode cX5_day 0 = .ok (.iconst 0, 1) := by decide +kernel
theorem dX5_day_1 : decode cX5_day 1 = .ok (.istore_n 1, 1) := by decide +kernel
theorem dX5_day_2 : decode cX5_day 2 = .ok (.iload_n 1, 1) := by decide +kernel
theorem dX5_day_3 : decode cX5_day 3 = .ok (.aload_n 0, 1) := by decide +kernel
theorem dX5_day_4 : decode cX5_day 4 = .ok (.getfield 7, 3) := by decide +kernel
theorem dX5_day_7 : decode cX5_day 7 = .ok (.iconst 0, 1) := by decide +kernel
theorem dX5_day_8 : decode cX5_day 8 = .ok (.iaload, 1) := by decide +kernel
theorem dX5_day_9 : decode cX5_day 9 = .ok (.if_icmp .ge 24, 3) := by decide +kernel
theorem dX5_day_12 : decode cX5_day 12 = .ok (.aload_n 0, 1) := by decide +kernel
theorem dX5_day_13 : decode cX5_day 13 = .ok (.iload_n 1, 1) := by decide +kernel
theorem dX5_day_14 : decode cX5_day 14 = .ok (.iconst 4, 1) := by decide +kernel
theorem dX5_day_15 : decode cX5_day 15 = .ok (.invokevirtual 78, 3) := by decide +kernel
theorem dX5_day_18 : decode cX5_day 18 = .ok (.iconst (-1), 1) := by decide +kernel
theorem dX5_day_19 : decode cX5_day 19 = .ok (.if_icmp .eq 8, 3) := by decide +kernel
theorem dX5_day_22 : decode cX5_day 22 = .ok (.aload_n 0, 1) := by decide +kernel
theorem dX5_day_23 : decode cX5_day 23 = .ok (.iload_n 1, 1) := by decide +kernel
theorem dX5_day_24 : decode cX5_day 24 = .ok (.invokevirtual 156, 3) := by decide +kernel
theorem dX5_day_27 : decode cX5_day 27 = .ok (.iinc 1 1, 3) := by decide +kernel
theorem dX5_day_30 : decode cX5_day 30 = .ok (.goto (-28), 3) := by decide +kernel
theorem dX5_day_33 : decode cX5_day 33 = .ok (.iconst 0, 1) := by decide +kernel
theorem dX5_day_34 : decode cX5_day 34 = .ok (.istore_n 1, 1) := by decide +kernel
theorem dX5_day_35 : decode cX5_day 35 = .ok (.iload_n 1, 1) := by decide +kernel
theorem dX5_day_36 : decode cX5_day 36 = .ok (.aload_n 0, 1) := by decide +kernel
theorem dX5_day_37 : decode cX5_day 37 = .ok (.getfield 7, 3) := by decide +kernel
theorem dX5_day_40 : decode cX5_day 40 = .ok (.iconst 0, 1) := by decide +kernel
theorem dX5_day_41 : decode cX5_day 41 = .ok (.iaload, 1) := by decide +kernel
theorem dX5_day_42 : decode cX5_day 42 = .ok (.if_icmp .ge 33, 3) := by decide +kernel
theorem dX5_day_45 : decode cX5_day 45 = .ok (.aload_n 0, 1) := by decide +kernel
theorem dX5_day_46 : decode cX5_day 46 = .ok (.getfield 7, 3) := by decide +kernel
theorem dX5_day_49 : decode cX5_day 49 = .ok (.iload_n 1, 1) := by decide +kernel
theorem dX5_day_50 : decode cX5_day 50 = .ok (.iconst 3, 1) := by decide +kernel
theorem dX5_day_51 : decode cX5_day 51 = .ok (.invokestatic 56, 3) := by decide +kernel
theorem dX5_day_54 : decode cX5_day 54 = .ok (.aload_n 0, 1) := by decide +kernel
theorem dX5_day_55 : decode cX5_day 55 = .ok (.iload_n 1, 1) := by decide +kernel
theorem dX5_day_56 : decode cX5_day 56 = .ok (.iconst 3, 1) := by decide +kernel
theorem dX5_day_57 : decode cX5_day 57 = .ok (.invokevirtual 78, 3) := by decide +kernel
theorem dX5_day_60 : decode cX5_day 60 = .ok (.iconst 1, 1) := by decide +kernel
theorem dX5_day_61 : decode cX5_day 61 = .ok (.iadd, 1) := by decide +kernel
theorem dX5_day_62 : decode cX5_day 62 = .ok (.sipush 999, 3) := by decide +kernel
theorem dX5_day_65 : decode cX5_day 65 = .ok (.invokestatic 138, 3) := by decide +kernel
theorem dX5_day_68 : decode cX5_day 68 = .ok (.iastore, 1) := by decide +kernel
theorem dX5_day_69 : decode cX5_day 69 = .ok (.iinc 1 1, 3) := by decide +kernel
theorem dX5_day_72 : decode cX5_day 72 = .ok (.goto (-37), 3) := by decide +kernel
theorem dX5_day_75 : decode cX5_day 75 = .ok (.iconst 0, 1) := by decide +kernel
theorem dX5_day_76 : decode cX5_day 76 = .ok (.istore_n 1, 1) := by decide +kernel
theorem dX5_day_77 : decode cX5_day 77 = .ok (.iload_n 1, 1) := by decide +kernel
theorem dX5_day_78 : decode cX5_day 78 = .ok (.bipush 8, 2) := by decide +kernel
theorem dX5_day_80 : decode cX5_day 80 = .ok (.if_icmp .ge 14, 3) := by decide +kernel
theorem dX5_day_83 : decode cX5_day 83 = .ok (.aload_n 0, 1) := by decide +kernel
theorem dX5_day_84 : decode cX5_day 84 = .ok (.iload_n 1, 1) := by decide +kernel
theorem dX5_day_85 : decode cX5_day 85 = .ok (.invokevirtual 160, 3) := by decide +kernel
theorem dX5_day_88 : decode cX5_day 88 = .ok (.iinc 1 1, 3) := by decide +kernel
theorem dX5_day_91 : decode cX5_day 91 = .ok (.goto (-14), 3) := by decide +kernel
theorem dX5_day_94 : decode cX5_day 94 = .ok (.iconst 0, 1) := by decide +kernel
theorem dX5_day_95 : decode cX5_day 95 = .ok (.istore_n 1, 1) := by decide +kernel
theorem dX5_day_96 : decode cX5_day 96 = .ok (.iload_n 1, 1) := by decide +kernel
theorem dX5_day_97 : decode cX5_day 97 = .ok (.aload_n 0, 1) := by decide +kernel
theorem dX5_day_98 : decode cX5_day 98 = .ok (.getfield 7, 3) := by decide +kernel
theorem dX5_day_101 : decode cX5_day 101 = .ok (.iconst 0, 1) := by decide +kernel
theorem dX5_day_102 : decode cX5_day 102 = .ok (.iaload, 1) := by decide +kernel
theorem dX5_day_103 : decode cX5_day 103 = .ok (.if_icmp .ge 47, 3) := by decide +kernel
theorem dX5_day_106 : decode cX5_day 106 = .ok (.aload_n 0, 1) := by decide +kernel
theorem dX5_day_107 : decode cX5_day 107 = .ok (.iload_n 1, 1) := by decide +kernel
theorem dX5_day_108 : decode cX5_day 108 = .ok (.iconst 4, 1) := by decide +kernel
theorem dX5_day_109 : decode cX5_day 109 = .ok (.invokevirtual 78, 3) := by decide +kernel
theorem dX5_day_112 : decode cX5_day 112 = .ok (.iconst (-1), 1) := by decide +kernel
theorem dX5_day_113 : decode cX5_day 113 = .ok (.if_icmp .ne 31, 3) := by decide +kernel
theorem dX5_day_116 : decode cX5_day 116 = .ok (.aload_n 0, 1) := by decide +kernel
theorem dX5_day_117 : decode cX5_day 117 = .ok (.aload_n 0, 1) := by decide +kernel
theorem dX5_day_118 : decode cX5_day 118 = .ok (.iload_n 1, 1) := by decide +kernel
theorem dX5_day_119 : decode cX5_day 119 = .ok (.iconst 1, 1) := by decide +kernel
theorem dX5_day_120 : decode cX5_day 120 = .ok (.invokevirtual 78, 3) := by decide +kernel
theorem dX5_day_123 : decode cX5_day 123 = .ok (.invokevirtual 131, 3) := by decide +kernel
theorem dX5_day_126 : decode cX5_day 126 = .ok (.ifCond .ne 18, 3) := by decide +kernel
theorem dX5_day_129 : decode cX5_day 129 = .ok (.aload_n 0, 1) := by decide +kernel
theorem dX5_day_130 : decode cX5_day 130 = .ok (.getfield 7, 3) := by decide +kernel
theorem dX5_day_133 : decode cX5_day 133 = .ok (.iload_n 1, 1) := by decide +kernel
theorem dX5_day_134 : decode cX5_day 134 = .ok (.iconst 4, 1) := by decide +kernel
theorem dX5_day_135 : decode cX5_day 135 = .ok (.invokestatic 56, 3) := by decide +kernel
theorem dX5_day_138 : decode cX5_day 138 = .ok (.aload_n 0, 1) := by decide +kernel
theorem dX5_day_139 : decode cX5_day 139 = .ok (.iload_n 1, 1) := by decide +kernel
theorem dX5_day_140 : decode cX5_day 140 = .ok (.invokevirtual 135, 3) := by decide +kernel
theorem dX5_day_143 : decode cX5_day 143 = .ok (.iastore, 1) := by decide +kernel
theorem dX5_day_144 : decode cX5_day 144 = .ok (.iinc 1 1, 3) := by decide +kernel
theorem dX5_day_147 : decode cX5_day 147 = .ok (.goto (-51), 3) := by decide +kernel
theorem dX5_day_150 : decode cX5_day 150 = .ok (.aload_n 0, 1) := by decide +kernel
theorem dX5_day_151 : decode cX5_day 151 = .ok (.getfield 7, 3) := by decide +kernel
theorem dX5_day_154 : decode cX5_day 154 = .ok (.iconst 1, 1) := by decide +kernel
theorem dX5_day_155 : decode cX5_day 155 = .ok (.dup2, 1) := by decide +kernel
theorem dX5_day_156 : decode cX5_day 156 = .ok (.iaload, 1) := by decide +kernel
theorem dX5_day_157 : decode cX5_day 157 = .ok (.iconst 1, 1) := by decide +kernel
theorem dX5_day_158 : decode cX5_day 158 = .ok (.iadd, 1) := by decide +kernel
theorem dX5_day_159 : decode cX5_day 159 = .ok (.iastore, 1) := by decide +kernel
theorem dX5_day_160 : decode cX5_day 160 = .ok (.return_, 1) := by decide +kernel
theorem dX5_daysGo_0 : decode cX5_daysGo 0 = .ok (.iconst 0, 1) := by decide +kernel
theorem dX5_daysGo_1 : decode cX5_daysGo 1 = .ok (.istore_n 2, 1) := by decide +kernel
theorem dX5_daysGo_2 : decode cX5_daysGo 2 = .ok (.iload_n 2, 1) := by decide +kernel
theorem dX5_daysGo_3 : decode cX5_daysGo 3 = .ok (.iload_n 1, 1) := by decide +kernel
theorem dX5_daysGo_4 : decode cX5_daysGo 4 = .ok (.if_icmp .ge 13, 3) := by decide +kernel
theorem dX5_daysGo_7 : decode cX5_daysGo 7 = .ok (.aload_n 0, 1) := by decide +kernel
theorem dX5_daysGo_8 : decode cX5_daysGo 8 = .ok (.invokevirtual 163, 3) := by decide +kernel
theorem dX5_daysGo_11 : decode cX5_daysGo 11 = .ok (.iinc 2 1, 3) := by decide +kernel
theorem dX5_daysGo_14 : decode cX5_daysGo 14 = .ok (.goto (-12), 3) := by decide +kernel
theorem dX5_daysGo_17 : decode cX5_daysGo 17 = .ok (.return_, 1) := by decide +kernel
theorem dX5_days_0 : decode cX5_days 0 = .ok (.iload_n 1, 1) := by decide +kernel
theorem dX5_days_1 : decode cX5_days 1 = .ok (.i2l, 1) := by decide +kernel
theorem dX5_days_2 : decode cX5_days 2 = .ok (.lconst 1, 1) := by decide +kernel
theorem dX5_days_3 : decode cX5_days 3 = .ok (.ldc2_w 166, 3) := by decide +kernel
theorem dX5_days_6 : decode cX5_days 6 = .ok (.invokestatic 48, 3) := by decide +kernel
theorem dX5_days_9 : decode cX5_days 9 = .ok (.ifCond .ne 10, 3) := by decide +kernel
theorem dX5_days_12 : decode cX5_days 12 = .ok (.aload_n 0, 1) := by decide +kernel
theorem dX5_days_13 : decode cX5_days 13 = .ok (.ldc 45, 2) := by decide +kernel
theorem dX5_days_15 : decode cX5_days 15 = .ok (.invokevirtual 74, 3) := by decide +kernel
theorem dX5_days_18 : decode cX5_days 18 = .ok (.ireturn, 1) := by decide +kernel
theorem dX5_days_19 : decode cX5_days 19 = .ok (.aload_n 0, 1) := by decide +kernel
theorem dX5_days_20 : decode cX5_days 20 = .ok (.getfield 7, 3) := by decide +kernel
theorem dX5_days_23 : decode cX5_days 23 = .ok (.iconst 1, 1) := by decide +kernel
theorem dX5_days_24 : decode cX5_days 24 = .ok (.iaload, 1) := by decide +kernel
theorem dX5_days_25 : decode cX5_days 25 = .ok (.iload_n 1, 1) := by decide +kernel
theorem dX5_days_26 : decode cX5_days 26 = .ok (.iadd, 1) := by decide +kernel
theorem dX5_days_27 : decode cX5_days 27 = .ok (.sipush 9999, 3) := by decide +kernel
theorem dX5_days_30 : decode cX5_days 30 = .ok (.if_icmp .le 10, 3) := by decide +kernel
theorem dX5_days_33 : decode cX5_days 33 = .ok (.aload_n 0, 1) := by decide +kernel
theorem dX5_days_34 : decode cX5_days 34 = .ok (.ldc 134, 2) := by decide +kernel
theorem dX5_days_36 : decode cX5_days 36 = .ok (.invokevirtual 74, 3) := by decide +kernel
theorem dX5_days_39 : decode cX5_days 39 = .ok (.ireturn, 1) := by decide +kernel
theorem dX5_days_40 : decode cX5_days 40 = .ok (.aload_n 0, 1) := by decide +kernel
theorem dX5_days_41 : decode cX5_days 41 = .ok (.iload_n 1, 1) := by decide +kernel
theorem dX5_days_42 : decode cX5_days 42 = .ok (.invokevirtual 168, 3) := by decide +kernel
theorem dX5_days_45 : decode cX5_days 45 = .ok (.aload_n 0, 1) := by decide +kernel
theorem dX5_days_46 : decode cX5_days 46 = .ok (.getfield 7, 3) := by decide +kernel
theorem dX5_days_49 : decode cX5_days 49 = .ok (.iconst 0, 1) := by decide +kernel
theorem dX5_days_50 : decode cX5_days 50 = .ok (.iaload, 1) := by decide +kernel
theorem dX5_days_51 : decode cX5_days 51 = .ok (.ireturn, 1) := by decide +kernel
theorem dX5_larders_0 : decode cX5_larders 0 = .ok (.iconst 0, 1) := by decide +kernel
theorem dX5_larders_1 : decode cX5_larders 1 = .ok (.istore_n 1, 1) := by decide +kernel
theorem dX5_larders_2 : decode cX5_larders 2 = .ok (.iconst 0, 1) := by decide +kernel
theorem dX5_larders_3 : decode cX5_larders 3 = .ok (.istore_n 2, 1) := by decide +kernel
theorem dX5_larders_4 : decode cX5_larders 4 = .ok (.iload_n 2, 1) := by decide +kernel
theorem dX5_larders_5 : decode cX5_larders 5 = .ok (.bipush 8, 2) := by decide +kernel
theorem dX5_larders_7 : decode cX5_larders 7 = .ok (.if_icmp .ge 18, 3) := by decide +kernel
theorem dX5_larders_10 : decode cX5_larders 10 = .ok (.iload_n 1, 1) := by decide +kernel
theorem dX5_larders_11 : decode cX5_larders 11 = .ok (.aload_n 0, 1) := by decide +kernel
theorem dX5_larders_12 : decode cX5_larders 12 = .ok (.iload_n 2, 1) := by decide +kernel
theorem dX5_larders_13 : decode cX5_larders 13 = .ok (.iconst 1, 1) := by decide +kernel
theorem dX5_larders_14 : decode cX5_larders 14 = .ok (.invokevirtual 84, 3) := by decide +kernel
theorem dX5_larders_17 : decode cX5_larders 17 = .ok (.iadd, 1) := by decide +kernel
theorem dX5_larders_18 : decode cX5_larders 18 = .ok (.istore_n 1, 1) := by decide +kernel
theorem dX5_larders_19 : decode cX5_larders 19 = .ok (.iinc 2 1, 3) := by decide +kernel
theorem dX5_larders_22 : decode cX5_larders 22 = .ok (.goto (-18), 3) := by decide +kernel
theorem dX5_larders_25 : decode cX5_larders 25 = .ok (.iload_n 1, 1) := by decide +kernel
theorem dX5_larders_26 : decode cX5_larders 26 = .ok (.ireturn, 1) := by decide +kernel
theorem dX5_bulks_0 : decode cX5_bulks 0 = .ok (.iconst 0, 1) := by decide +kernel
theorem dX5_bulks_1 : decode cX5_bulks 1 = .ok (.istore_n 1, 1) := by decide +kernel
theorem dX5_bulks_2 : decode cX5_bulks 2 = .ok (.iconst 0, 1) := by decide +kernel
theorem dX5_bulks_3 : decode cX5_bulks 3 = .ok (.istore_n 2, 1) := by decide +kernel
theorem dX5_bulks_4 : decode cX5_bulks 4 = .ok (.iload_n 2, 1) := by decide +kernel
theorem dX5_bulks_5 : decode cX5_bulks 5 = .ok (.aload_n 0, 1) := by decide +kernel
theorem dX5_bulks_6 : decode cX5_bulks 6 = .ok (.getfield 7, 3) := by decide +kernel
theorem dX5_bulks_9 : decode cX5_bulks 9 = .ok (.iconst 0, 1) := by decide +kernel
theorem dX5_bulks_10 : decode cX5_bulks 10 = .ok (.iaload, 1) := by decide +kernel
theorem dX5_bulks_11 : decode cX5_bulks 11 = .ok (.if_icmp .ge 18, 3) := by decide +kernel
theorem dX5_bulks_14 : decode cX5_bulks 14 = .ok (.iload_n 1, 1) := by decide +kernel
theorem dX5_bulks_15 : decode cX5_bulks 15 = .ok (.aload_n 0, 1) := by decide +kernel
theorem dX5_bulks_16 : decode cX5_bulks 16 = .ok (.iload_n 2, 1) := by decide +kernel
theorem dX5_bulks_17 : decode cX5_bulks 17 = .ok (.iconst 2, 1) := by decide +kernel
theorem dX5_bulks_18 : decode cX5_bulks 18 = .ok (.invokevirtual 78, 3) := by decide +kernel
theorem dX5_bulks_21 : decode cX5_bulks 21 = .ok (.iadd, 1) := by decide +kernel
theorem dX5_bulks_22 : decode cX5_bulks 22 = .ok (.istore_n 1, 1) := by decide +kernel
theorem dX5_bulks_23 : decode cX5_bulks 23 = .ok (.iinc 2 1, 3) := by decide +kernel
theorem dX5_bulks_26 : decode cX5_bulks 26 = .ok (.goto (-22), 3) := by decide +kernel
theorem dX5_bulks_29 : decode cX5_bulks 29 = .ok (.iload_n 1, 1) := by decide +kernel
theorem dX5_bulks_30 : decode cX5_bulks 30 = .ok (.ireturn, 1) := by decide +kernel
theorem dX5_freeBeds_0 : decode cX5_freeBeds 0 = .ok (.iconst 0, 1) := by decide +kernel
theorem dX5_freeBeds_1 : decode cX5_freeBeds 1 = .ok (.istore_n 1, 1) := by decide +kernel
theorem dX5_freeBeds_2 : decode cX5_freeBeds 2 = .ok (.iconst 0, 1) := by decide +kernel
theorem dX5_freeBeds_3 : decode cX5_freeBeds 3 = .ok (.istore_n 2, 1) := by decide +kernel
theorem dX5_freeBeds_4 : decode cX5_freeBeds 4 = .ok (.iload_n 2, 1) := by decide +kernel
theorem dX5_freeBeds_5 : decode cX5_freeBeds 5 = .ok (.bipush 8, 2) := by decide +kernel
theorem dX5_freeBeds_7 : decode cX5_freeBeds 7 = .ok (.if_icmp .ge 39, 3) := by decide +kernel
theorem dX5_freeBeds_10 : decode cX5_freeBeds 10 = .ok (.iload_n 1, 1) := by decide +kernel
theorem dX5_freeBeds_11 : decode cX5_freeBeds 11 = .ok (.aload_n 0, 1) := by decide +kernel
theorem dX5_freeBeds_12 : decode cX5_freeBeds 12 = .ok (.iload_n 2, 1) := by decide +kernel
theorem dX5_freeBeds_13 : decode cX5_freeBeds 13 = .ok (.invokevirtual 125, 3) := by decide +kernel
theorem dX5_freeBeds_16 : decode cX5_freeBeds 16 = .ok (.ifCond .eq 21, 3) := by decide +kernel
theorem dX5_freeBeds_19 : decode cX5_freeBeds 19 = .ok (.aload_n 0, 1) := by decide +kernel
theorem dX5_freeBeds_20 : decode cX5_freeBeds 20 = .ok (.iload_n 2, 1) := by decide +kernel
theorem dX5_freeBeds_21 : decode cX5_freeBeds 21 = .ok (.iconst 0, 1) := by decide +kernel
theorem dX5_freeBeds_22 : decode cX5_freeBeds 22 = .ok (.invokevirtual 84, 3) := by decide +kernel
theorem dX5_freeBeds_25 : decode cX5_freeBeds 25 = .ok (.aload_n 0, 1) := by decide +kernel
theorem dX5_freeBeds_26 : decode cX5_freeBeds 26 = .ok (.iload_n 2, 1) := by decide +kernel
theorem dX5_freeBeds_27 : decode cX5_freeBeds 27 = .ok (.invokevirtual 87, 3) := by decide +kernel
theorem dX5_freeBeds_30 : decode cX5_freeBeds 30 = .ok (.invokestatic 122, 3) := by decide +kernel
theorem dX5_freeBeds_33 : decode cX5_freeBeds 33 = .ok (.isub, 1) := by decide +kernel
theorem dX5_freeBeds_34 : decode cX5_freeBeds 34 = .ok (.goto 4, 3) := by decide +kernel
theorem dX5_freeBeds_37 : decode cX5_freeBeds 37 = .ok (.iconst 0, 1) := by decide +kernel
theorem dX5_freeBeds_38 : decode cX5_freeBeds 38 = .ok (.iadd, 1) := by decide +kernel
theorem dX5_freeBeds_39 : decode cX5_freeBeds 39 = .ok (.istore_n 1, 1) := by decide +kernel
theorem dX5_freeBeds_40 : decode cX5_freeBeds 40 = .ok (.iinc 2 1, 3) := by decide +kernel
theorem dX5_freeBeds_43 : decode cX5_freeBeds 43 = .ok (.goto (-39), 3) := by decide +kernel
theorem dX5_freeBeds_46 : decode cX5_freeBeds 46 = .ok (.iload_n 1, 1) := by decide +kernel
theorem dX5_freeBeds_47 : decode cX5_freeBeds 47 = .ok (.ireturn, 1) := by decide +kernel
theorem dX5_eaten_0 : decode cX5_eaten 0 = .ok (.iconst 0, 1) := by decide +kernel
theorem dX5_eaten_1 : decode cX5_eaten 1 = .ok (.istore_n 1, 1) := by decide +kernel
theorem dX5_eaten_2 : decode cX5_eaten 2 = .ok (.iconst 0, 1) := by decide +kernel
theorem dX5_eaten_3 : decode cX5_eaten 3 = .ok (.istore_n 2, 1) := by decide +kernel
theorem dX5_eaten_4 : decode cX5_eaten 4 = .ok (.iload_n 2, 1) := by decide +kernel
theorem dX5_eaten_5 : decode cX5_eaten 5 = .ok (.bipush 8, 2) := by decide +kernel
theorem dX5_eaten_7 : decode cX5_eaten 7 = .ok (.if_icmp .ge 17, 3) := by decide +kernel
theorem dX5_eaten_10 : decode cX5_eaten 10 = .ok (.iload_n 1, 1) := by decide +kernel
theorem dX5_eaten_11 : decode cX5_eaten 11 = .ok (.aload_n 0, 1) := by decide +kernel
theorem dX5_eaten_12 : decode cX5_eaten 12 = .ok (.iload_n 2, 1) := by decide +kernel
theorem dX5_eaten_13 : decode cX5_eaten 13 = .ok (.invokevirtual 93, 3) := by decide +kernel
theorem dX5_eaten_16 : decode cX5_eaten 16 = .ok (.iadd, 1) := by decide +kernel
theorem dX5_eaten_17 : decode cX5_eaten 17 = .ok (.istore_n 1, 1) := by decide +kernel
theorem dX5_eaten_18 : decode cX5_eaten 18 = .ok (.iinc 2 1, 3) := by decide +kernel
theorem dX5_eaten_21 : decode cX5_eaten 21 = .ok (.goto (-17), 3) := by decide +kernel
theorem dX5_eaten_24 : decode cX5_eaten 24 = .ok (.iload_n 1, 1) := by decide +kernel
theorem dX5_eaten_25 : decode cX5_eaten 25 = .ok (.ireturn, 1) := by decide +kernel
theorem dX5_now_0 : decode cX5_now 0 = .ok (.iload_n 1, 1) := by decide +kernel
theorem dX5_now_1 : decode cX5_now 1 = .ok (.tableswitch 83 0 6 #[43, 50, 57, 63, 68, 73, 78], 43) := by decide +kernel
theorem dX5_now_44 : decode cX5_now 44 = .ok (.aload_n 0, 1) := by decide +kernel
theorem dX5_now_45 : decode cX5_now 45 = .ok (.getfield 7, 3) := by decide +kernel
theorem dX5_now_48 : decode cX5_now 48 = .ok (.iconst 1, 1) := by decide +kernel
theorem dX5_now_49 : decode cX5_now 49 = .ok (.iaload, 1) := by decide +kernel
theorem dX5_now_50 : decode cX5_now 50 = .ok (.ireturn, 1) := by decide +kernel
theorem dX5_now_51 : decode cX5_now 51 = .ok (.aload_n 0, 1) := by decide +kernel
theorem dX5_now_52 : decode cX5_now 52 = .ok (.getfield 7, 3) := by decide +kernel
theorem dX5_now_55 : decode cX5_now 55 = .ok (.iconst 2, 1) := by decide +kernel
theorem dX5_now_56 : decode cX5_now 56 = .ok (.iaload, 1) := by decide +kernel
theorem dX5_now_57 : decode cX5_now 57 = .ok (.ireturn, 1) := by decide +kernel
theorem dX5_now_58 : decode cX5_now 58 = .ok (.aload_n 0, 1) := by decide +kernel
theorem dX5_now_59 : decode cX5_now 59 = .ok (.iconst (-1), 1) := by decide +kernel
theorem dX5_now_60 : decode cX5_now 60 = .ok (.invokevirtual 87, 3) := by decide +kernel
theorem dX5_now_63 : decode cX5_now 63 = .ok (.ireturn, 1) := by decide +kernel
theorem dX5_now_64 : decode cX5_now 64 = .ok (.aload_n 0, 1) := by decide +kernel
theorem dX5_now_65 : decode cX5_now 65 = .ok (.invokevirtual 171, 3) := by decide +kernel
theorem dX5_now_68 : decode cX5_now 68 = .ok (.ireturn, 1) := by decide +kernel
theorem dX5_now_69 : decode cX5_now 69 = .ok (.aload_n 0, 1) := by decide +kernel
theorem dX5_now_70 : decode cX5_now 70 = .ok (.invokevirtual 175, 3) := by decide +kernel
theorem dX5_now_73 : decode cX5_now 73 = .ok (.ireturn, 1) := by decide +kernel
theorem dX5_now_74 : decode cX5_now 74 = .ok (.aload_n 0, 1) := by decide +kernel
theorem dX5_now_75 : decode cX5_now 75 = .ok (.invokevirtual 178, 3) := by decide +kernel
theorem dX5_now_78 : decode cX5_now 78 = .ok (.ireturn, 1) := by decide +kernel
theorem dX5_now_79 : decode cX5_now 79 = .ok (.aload_n 0, 1) := by decide +kernel
theorem dX5_now_80 : decode cX5_now 80 = .ok (.invokevirtual 181, 3) := by decide +kernel
theorem dX5_now_83 : decode cX5_now 83 = .ok (.ireturn, 1) := by decide +kernel
theorem dX5_now_84 : decode cX5_now 84 = .ok (.aload_n 0, 1) := by decide +kernel
theorem dX5_now_85 : decode cX5_now 85 = .ok (.ldc 45, 2) := by decide +kernel
theorem dX5_now_87 : decode cX5_now 87 = .ok (.invokevirtual 74, 3) := by decide +kernel
theorem dX5_now_90 : decode cX5_now 90 = .ok (.ireturn, 1) := by decide +kernel
theorem dX5_isAhead_0 : decode cX5_isAhead 0 = .ok (.iload_n 0, 1) := by decide +kernel
theorem dX5_isAhead_1 : decode cX5_isAhead 1 = .ok (.i2l, 1) := by decide +kernel
theorem dX5_isAhead_2 : decode cX5_isAhead 2 = .ok (.lconst 0, 1) := by decide +kernel
theorem dX5_isAhead_3 : decode cX5_isAhead 3 = .ok (.ldc2_w 166, 3) := by decide +kernel
theorem dX5_isAhead_6 : decode cX5_isAhead 6 = .ok (.invokestatic 48, 3) := by decide +kernel
theorem dX5_isAhead_9 : decode cX5_isAhead 9 = .ok (.ireturn, 1) := by decide +kernel
theorem dX5_behind_0 : decode cX5_behind 0 = .ok (.aload_n 0, 1) := by decide +kernel
theorem dX5_behind_1 : decode cX5_behind 1 = .ok (.invokevirtual 184, 3) := by decide +kernel
theorem dX5_behind_4 : decode cX5_behind 4 = .ok (.aload_n 0, 1) := by decide +kernel
theorem dX5_behind_5 : decode cX5_behind 5 = .ok (.iload_n 2, 1) := by decide +kernel
theorem dX5_behind_6 : decode cX5_behind 6 = .ok (.invokevirtual 168, 3) := by decide +kernel
theorem dX5_behind_9 : decode cX5_behind 9 = .ok (.aload_n 0, 1) := by decide +kernel
theorem dX5_behind_10 : decode cX5_behind 10 = .ok (.aload_n 0, 1) := by decide +kernel
theorem dX5_behind_11 : decode cX5_behind 11 = .ok (.getfield 7, 3) := by decide +kernel
theorem dX5_behind_14 : decode cX5_behind 14 = .ok (.iload_n 1, 1) := by decide +kernel
theorem dX5_behind_15 : decode cX5_behind 15 = .ok (.iaload, 1) := by decide +kernel
theorem dX5_behind_16 : decode cX5_behind 16 = .ok (.invokevirtual 187, 3) := by decide +kernel
theorem dX5_behind_19 : decode cX5_behind 19 = .ok (.ireturn, 1) := by decide +kernel
theorem dX5_on_0 : decode cX5_on 0 = .ok (.aload_n 0, 1) := by decide +kernel
theorem dX5_on_1 : decode cX5_on 1 = .ok (.iload_n 1, 1) := by decide +kernel
theorem dX5_on_2 : decode cX5_on 2 = .ok (.invokevirtual 106, 3) := by decide +kernel
theorem dX5_on_5 : decode cX5_on 5 = .ok (.ifCond .eq 20, 3) := by decide +kernel
theorem dX5_on_8 : decode cX5_on 8 = .ok (.iload_n 2, 1) := by decide +kernel
theorem dX5_on_9 : decode cX5_on 9 = .ok (.invokestatic 190, 3) := by decide +kernel
theorem dX5_on_12 : decode cX5_on 12 = .ok (.ifCond .eq 13, 3) := by decide +kernel
theorem dX5_on_15 : decode cX5_on 15 = .ok (.iload_n 3, 1) := by decide +kernel
theorem dX5_on_16 : decode cX5_on 16 = .ok (.i2l, 1) := by decide +kernel
theorem dX5_on_17 : decode cX5_on 17 = .ok (.lconst 0, 1) := by decide +kernel
theorem dX5_on_18 : decode cX5_on 18 = .ok (.lconst 1, 1) := by decide +kernel
theorem dX5_on_19 : decode cX5_on 19 = .ok (.invokestatic 48, 3) := by decide +kernel
theorem dX5_on_22 : decode cX5_on 22 = .ok (.ifCond .ne 10, 3) := by decide +kernel
theorem dX5_on_25 : decode cX5_on 25 = .ok (.aload_n 0, 1) := by decide +kernel
theorem dX5_on_26 : decode cX5_on 26 = .ok (.ldc 45, 2) := by decide +kernel
theorem dX5_on_28 : decode cX5_on 28 = .ok (.invokevirtual 74, 3) := by decide +kernel
theorem dX5_on_31 : decode cX5_on 31 = .ok (.ireturn, 1) := by decide +kernel
theorem dX5_on_32 : decode cX5_on 32 = .ok (.aload_n 0, 1) := by decide +kernel
theorem dX5_on_33 : decode cX5_on 33 = .ok (.iload_n 1, 1) := by decide +kernel
theorem dX5_on_34 : decode cX5_on 34 = .ok (.iload_n 3, 1) := by decide +kernel
theorem dX5_on_35 : decode cX5_on 35 = .ok (.ifCond .ne 7, 3) := by decide +kernel
theorem dX5_on_38 : decode cX5_on 38 = .ok (.iconst 4, 1) := by decide +kernel
theorem dX5_on_39 : decode cX5_on 39 = .ok (.goto 4, 3) := by decide +kernel
theorem dX5_on_42 : decode cX5_on 42 = .ok (.iconst 2, 1) := by decide +kernel
theorem dX5_on_43 : decode cX5_on 43 = .ok (.invokestatic 56, 3) := by decide +kernel
theorem dX5_on_46 : decode cX5_on 46 = .ok (.iload_n 2, 1) := by decide +kernel
theorem dX5_on_47 : decode cX5_on 47 = .ok (.invokevirtual 193, 3) := by decide +kernel
theorem dX5_on_50 : decode cX5_on 50 = .ok (.ireturn, 1) := by decide +kernel
theorem dX5_larder_0 : decode cX5_larder 0 = .ok (.iload_n 1, 1) := by decide +kernel
theorem dX5_larder_1 : decode cX5_larder 1 = .ok (.invokestatic 67, 3) := by decide +kernel
theorem dX5_larder_4 : decode cX5_larder 4 = .ok (.ifCond .eq 23, 3) := by decide +kernel
theorem dX5_larder_7 : decode cX5_larder 7 = .ok (.iload_n 2, 1) := by decide +kernel
theorem dX5_larder_8 : decode cX5_larder 8 = .ok (.invokestatic 190, 3) := by decide +kernel
theorem dX5_larder_11 : decode cX5_larder 11 = .ok (.ifCond .eq 16, 3) := by decide +kernel
theorem dX5_larder_14 : decode cX5_larder 14 = .ok (.aload_n 0, 1) := by decide +kernel
theorem dX5_larder_15 : decode cX5_larder 15 = .ok (.iload_n 1, 1) := by decide +kernel
theorem dX5_larder_16 : decode cX5_larder 16 = .ok (.iconst 1, 1) := by decide +kernel
theorem dX5_larder_17 : decode cX5_larder 17 = .ok (.invokestatic 41, 3) := by decide +kernel
theorem dX5_larder_20 : decode cX5_larder 20 = .ok (.iload_n 2, 1) := by decide +kernel
theorem dX5_larder_21 : decode cX5_larder 21 = .ok (.invokevirtual 193, 3) := by decide +kernel
theorem dX5_larder_24 : decode cX5_larder 24 = .ok (.goto 9, 3) := by decide +kernel
theorem dX5_larder_27 : decode cX5_larder 27 = .ok (.aload_n 0, 1) := by decide +kernel
theorem dX5_larder_28 : decode cX5_larder 28 = .ok (.ldc 45, 2) := by decide +kernel
theorem dX5_larder_30 : decode cX5_larder 30 = .ok (.invokevirtual 74, 3) := by decide +kernel
theorem dX5_larder_33 : decode cX5_larder 33 = .ok (.ireturn, 1) := by decide +kernel
theorem dX5_firstAs_0 : decode cX5_firstAs 0 = .ok (.aload_n 0, 1) := by decide +kernel
theorem dX5_firstAs_1 : decode cX5_firstAs 1 = .ok (.invokevirtual 184, 3) := by decide +kernel
theorem dX5_firstAs_4 : decode cX5_firstAs 4 = .ok (.iconst 0, 1) := by decide +kernel
theorem dX5_firstAs_5 : decode cX5_firstAs 5 = .ok (.istore_n 3, 1) := by decide +kernel
theorem dX5_firstAs_6 : decode cX5_firstAs 6 = .ok (.iload_n 3, 1) := by decide +kernel
theorem dX5_firstAs_7 : decode cX5_firstAs 7 = .ok (.bipush 60, 2) := by decide +kernel
theorem dX5_firstAs_9 : decode cX5_firstAs 9 = .ok (.if_icmp .gt 23, 3) := by decide +kernel
theorem dX5_firstAs_12 : decode cX5_firstAs 12 = .ok (.aload_n 0, 1) := by decide +kernel
theorem dX5_firstAs_13 : decode cX5_firstAs 13 = .ok (.getfield 7, 3) := by decide +kernel
theorem dX5_firstAs_16 : decode cX5_firstAs 16 = .ok (.iload_n 1, 1) := by decide +kernel
theorem dX5_firstAs_17 : decode cX5_firstAs 17 = .ok (.iaload, 1) := by decide +kernel
theorem dX5_firstAs_18 : decode cX5_firstAs 18 = .ok (.iload_n 2, 1) := by decide +kernel
theorem dX5_firstAs_19 : decode cX5_firstAs 19 = .ok (.if_icmp .eq 13, 3) := by decide +kernel
theorem dX5_firstAs_22 : decode cX5_firstAs 22 = .ok (.aload_n 0, 1) := by decide +kernel
theorem dX5_firstAs_23 : decode cX5_firstAs 23 = .ok (.invokevirtual 163, 3) := by decide +kernel
theorem dX5_firstAs_26 : decode cX5_firstAs 26 = .ok (.iinc 3 1, 3) := by decide +kernel
theorem dX5_firstAs_29 : decode cX5_firstAs 29 = .ok (.goto (-23), 3) := by decide +kernel
theorem dX5_firstAs_32 : decode cX5_firstAs 32 = .ok (.aload_n 0, 1) := by decide +kernel
theorem dX5_firstAs_33 : decode cX5_firstAs 33 = .ok (.iload_n 3, 1) := by decide +kernel
theorem dX5_firstAs_34 : decode cX5_firstAs 34 = .ok (.invokevirtual 187, 3) := by decide +kernel
theorem dX5_firstAs_37 : decode cX5_firstAs 37 = .ok (.istore 4, 2) := by decide +kernel
theorem dX5_firstAs_39 : decode cX5_firstAs 39 = .ok (.iload 4, 2) := by decide +kernel
theorem dX5_firstAs_41 : decode cX5_firstAs 41 = .ok (.bipush 60, 2) := by decide +kernel
theorem dX5_firstAs_43 : decode cX5_firstAs 43 = .ok (.if_icmp .le 12, 3) := by decide +kernel
theorem dX5_firstAs_46 : decode cX5_firstAs 46 = .ok (.aload_n 0, 1) := by decide +kernel
theorem dX5_firstAs_47 : decode cX5_firstAs 47 = .ok (.ldc 196, 2) := by decide +kernel
theorem dX5_firstAs_49 : decode cX5_firstAs 49 = .ok (.invokevirtual 74, 3) := by decide +kernel
theorem dX5_firstAs_52 : decode cX5_firstAs 52 = .ok (.goto 5, 3) := by decide +kernel
theorem dX5_firstAs_55 : decode cX5_firstAs 55 = .ok (.iload 4, 2) := by decide +kernel
theorem dX5_firstAs_57 : decode cX5_firstAs 57 = .ok (.ireturn, 1) := by decide +kernel
theorem dX5_empty_0 : decode cX5_empty 0 = .ok (.iload_n 1, 1) := by decide +kernel
theorem dX5_empty_1 : decode cX5_empty 1 = .ok (.invokestatic 67, 3) := by decide +kernel
theorem dX5_empty_4 : decode cX5_empty 4 = .ok (.ifCond .eq 16, 3) := by decide +kernel
theorem dX5_empty_7 : decode cX5_empty 7 = .ok (.aload_n 0, 1) := by decide +kernel
theorem dX5_empty_8 : decode cX5_empty 8 = .ok (.iload_n 1, 1) := by decide +kernel
theorem dX5_empty_9 : decode cX5_empty 9 = .ok (.iconst 1, 1) := by decide +kernel
theorem dX5_empty_10 : decode cX5_empty 10 = .ok (.invokestatic 41, 3) := by decide +kernel
theorem dX5_empty_13 : decode cX5_empty 13 = .ok (.iconst 0, 1) := by decide +kernel
theorem dX5_empty_14 : decode cX5_empty 14 = .ok (.invokevirtual 197, 3) := by decide +kernel
theorem dX5_empty_17 : decode cX5_empty 17 = .ok (.goto 9, 3) := by decide +kernel
theorem dX5_empty_20 : decode cX5_empty 20 = .ok (.aload_n 0, 1) := by decide +kernel
theorem dX5_empty_21 : decode cX5_empty 21 = .ok (.ldc 45, 2) := by decide +kernel
theorem dX5_empty_23 : decode cX5_empty 23 = .ok (.invokevirtual 74, 3) := by decide +kernel
theorem dX5_empty_26 : decode cX5_empty 26 = .ok (.ireturn, 1) := by decide +kernel
theorem dX5_many_0 : decode cX5_many 0 = .ok (.iload_n 1, 1) := by decide +kernel
theorem dX5_many_1 : decode cX5_many 1 = .ok (.invokestatic 190, 3) := by decide +kernel
theorem dX5_many_4 : decode cX5_many 4 = .ok (.ifCond .eq 12, 3) := by decide +kernel
theorem dX5_many_7 : decode cX5_many 7 = .ok (.aload_n 0, 1) := by decide +kernel
theorem dX5_many_8 : decode cX5_many 8 = .ok (.iconst 0, 1) := by decide +kernel
theorem dX5_many_9 : decode cX5_many 9 = .ok (.iload_n 1, 1) := by decide +kernel
theorem dX5_many_10 : decode cX5_many 10 = .ok (.invokevirtual 193, 3) := by decide +kernel
theorem dX5_many_13 : decode cX5_many 13 = .ok (.goto 9, 3) := by decide +kernel
theorem dX5_many_16 : decode cX5_many 16 = .ok (.aload_n 0, 1) := by decide +kernel
theorem dX5_many_17 : decode cX5_many 17 = .ok (.ldc 45, 2) := by decide +kernel
theorem dX5_many_19 : decode cX5_many 19 = .ok (.invokevirtual 74, 3) := by decide +kernel
theorem dX5_many_22 : decode cX5_many 22 = .ok (.ireturn, 1) := by decide +kernel
theorem dX5_out_0 : decode cX5_out 0 = .ok (.aload_n 0, 1) := by decide +kernel
theorem dX5_out_1 : decode cX5_out 1 = .ok (.iload_n 1, 1) := by decide +kernel
theorem dX5_out_2 : decode cX5_out 2 = .ok (.invokevirtual 106, 3) := by decide +kernel
theorem dX5_out_5 : decode cX5_out 5 = .ok (.ifCond .eq 16, 3) := by decide +kernel
theorem dX5_out_8 : decode cX5_out 8 = .ok (.aload_n 0, 1) := by decide +kernel
theorem dX5_out_9 : decode cX5_out 9 = .ok (.iload_n 1, 1) := by decide +kernel
theorem dX5_out_10 : decode cX5_out 10 = .ok (.iconst 4, 1) := by decide +kernel
theorem dX5_out_11 : decode cX5_out 11 = .ok (.invokestatic 56, 3) := by decide +kernel
theorem dX5_out_14 : decode cX5_out 14 = .ok (.iconst (-1), 1) := by decide +kernel
theorem dX5_out_15 : decode cX5_out 15 = .ok (.invokevirtual 197, 3) := by decide +kernel
theorem dX5_out_18 : decode cX5_out 18 = .ok (.goto 9, 3) := by decide +kernel
theorem dX5_out_21 : decode cX5_out 21 = .ok (.aload_n 0, 1) := by decide +kernel
theorem dX5_out_22 : decode cX5_out 22 = .ok (.ldc 45, 2) := by decide +kernel
theorem dX5_out_24 : decode cX5_out 24 = .ok (.invokevirtual 74, 3) := by decide +kernel
theorem dX5_out_27 : decode cX5_out 27 = .ok (.ireturn, 1) := by decide +kernel
theorem dX5_wrongLodger_0 : decode cX5_wrongLodger 0 = .ok (.aload_n 0, 1) := by decide +kernel
theorem dX5_wrongLodger_1 : decode cX5_wrongLodger 1 = .ok (.iload_n 1, 1) := by decide +kernel
