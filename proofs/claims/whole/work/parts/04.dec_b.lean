theorem dX3_init_0 : decode cX3_init 0 = .ok (.aload_n 0, 1) := by decide +kernel
theorem dX3_init_1 : decode cX3_init 1 = .ok (.invokespecial 3, 3) := by decide +kernel
theorem dX3_init_4 : decode cX3_init 4 = .ok (.aload_n 0, 1) := by decide +kernel
theorem dX3_init_5 : decode cX3_init 5 = .ok (.bipush 8, 2) := by decide +kernel
theorem dX3_init_7 : decode cX3_init 7 = .ok (.newarray .int, 2) := by decide +kernel
theorem dX3_init_9 : decode cX3_init 9 = .ok (.putfield 9, 3) := by decide +kernel
theorem dX3_init_12 : decode cX3_init 12 = .ok (.aload_n 0, 1) := by decide +kernel
theorem dX3_init_13 : decode cX3_init 13 = .ok (.bipush 8, 2) := by decide +kernel
theorem dX3_init_15 : decode cX3_init 15 = .ok (.newarray .int, 2) := by decide +kernel
theorem dX3_init_17 : decode cX3_init 17 = .ok (.putfield 15, 3) := by decide +kernel
theorem dX3_init_20 : decode cX3_init 20 = .ok (.aload_n 0, 1) := by decide +kernel
theorem dX3_init_21 : decode cX3_init 21 = .ok (.bipush 8, 2) := by decide +kernel
theorem dX3_init_23 : decode cX3_init 23 = .ok (.newarray .int, 2) := by decide +kernel
theorem dX3_init_25 : decode cX3_init 25 = .ok (.putfield 18, 3) := by decide +kernel
theorem dX3_init_28 : decode cX3_init 28 = .ok (.aload_n 0, 1) := by decide +kernel
theorem dX3_init_29 : decode cX3_init 29 = .ok (.bipush 8, 2) := by decide +kernel
theorem dX3_init_31 : decode cX3_init 31 = .ok (.newarray .int, 2) := by decide +kernel
theorem dX3_init_33 : decode cX3_init 33 = .ok (.putfield 21, 3) := by decide +kernel
theorem dX3_init_36 : decode cX3_init 36 = .ok (.aload_n 0, 1) := by decide +kernel
theorem dX3_init_37 : decode cX3_init 37 = .ok (.iconst 0, 1) := by decide +kernel
theorem dX3_init_38 : decode cX3_init 38 = .ok (.putfield 24, 3) := by decide +kernel
theorem dX3_init_41 : decode cX3_init 41 = .ok (.aload_n 0, 1) := by decide +kernel
theorem dX3_init_42 : decode cX3_init 42 = .ok (.bipush 10, 2) := by decide +kernel
theorem dX3_init_44 : decode cX3_init 44 = .ok (.newarray .int, 2) := by decide +kernel
theorem dX3_init_46 : decode cX3_init 46 = .ok (.putfield 28, 3) := by decide +kernel
theorem dX3_init_49 : decode cX3_init 49 = .ok (.aload_n 0, 1) := by decide +kernel
theorem dX3_init_50 : decode cX3_init 50 = .ok (.bipush 10, 2) := by decide +kernel
theorem dX3_init_52 : decode cX3_init 52 = .ok (.newarray .int, 2) := by decide +kernel
theorem dX3_init_54 : decode cX3_init 54 = .ok (.putfield 31, 3) := by decide +kernel
theorem dX3_init_57 : decode cX3_init 57 = .ok (.aload_n 0, 1) := by decide +kernel
theorem dX3_init_58 : decode cX3_init 58 = .ok (.bipush 10, 2) := by decide +kernel
theorem dX3_init_60 : decode cX3_init 60 = .ok (.newarray .int, 2) := by decide +kernel
theorem dX3_init_62 : decode cX3_init 62 = .ok (.putfield 34, 3) := by decide +kernel
theorem dX3_init_65 : decode cX3_init 65 = .ok (.aload_n 0, 1) := by decide +kernel
theorem dX3_init_66 : decode cX3_init 66 = .ok (.bipush 10, 2) := by decide +kernel
theorem dX3_init_68 : decode cX3_init 68 = .ok (.newarray .int, 2) := by decide +kernel
theorem dX3_init_70 : decode cX3_init 70 = .ok (.putfield 37, 3) := by decide +kernel
theorem dX3_init_73 : decode cX3_init 73 = .ok (.aload_n 0, 1) := by decide +kernel
theorem dX3_init_74 : decode cX3_init 74 = .ok (.bipush 10, 2) := by decide +kernel
theorem dX3_init_76 : decode cX3_init 76 = .ok (.newarray .int, 2) := by decide +kernel
theorem dX3_init_78 : decode cX3_init 78 = .ok (.putfield 40, 3) := by decide +kernel
theorem dX3_init_81 : decode cX3_init 81 = .ok (.aload_n 0, 1) := by decide +kernel
theorem dX3_init_82 : decode cX3_init 82 = .ok (.iconst 0, 1) := by decide +kernel
theorem dX3_init_83 : decode cX3_init 83 = .ok (.putfield 43, 3) := by decide +kernel
theorem dX3_init_86 : decode cX3_init 86 = .ok (.aload_n 0, 1) := by decide +kernel
theorem dX3_init_87 : decode cX3_init 87 = .ok (.iconst 0, 1) := by decide +kernel
theorem dX3_init_88 : decode cX3_init 88 = .ok (.putfield 46, 3) := by decide +kernel
theorem dX3_init_91 : decode cX3_init 91 = .ok (.iconst 0, 1) := by decide +kernel
theorem dX3_init_92 : decode cX3_init 92 = .ok (.istore_n 1, 1) := by decide +kernel
theorem dX3_init_93 : decode cX3_init 93 = .ok (.iload_n 1, 1) := by decide +kernel
theorem dX3_init_94 : decode cX3_init 94 = .ok (.bipush 8, 2) := by decide +kernel
theorem dX3_init_96 : decode cX3_init 96 = .ok (.if_icmp .ge 31, 3) := by decide +kernel
theorem dX3_init_99 : decode cX3_init 99 = .ok (.aload_n 0, 1) := by decide +kernel
theorem dX3_init_100 : decode cX3_init 100 = .ok (.getfield 9, 3) := by decide +kernel
theorem dX3_init_103 : decode cX3_init 103 = .ok (.iload_n 1, 1) := by decide +kernel
theorem dX3_init_104 : decode cX3_init 104 = .ok (.iconst 1, 1) := by decide +kernel
theorem dX3_init_105 : decode cX3_init 105 = .ok (.iastore, 1) := by decide +kernel
theorem dX3_init_106 : decode cX3_init 106 = .ok (.aload_n 0, 1) := by decide +kernel
theorem dX3_init_107 : decode cX3_init 107 = .ok (.getfield 15, 3) := by decide +kernel
theorem dX3_init_110 : decode cX3_init 110 = .ok (.iload_n 1, 1) := by decide +kernel
theorem dX3_init_111 : decode cX3_init 111 = .ok (.bipush 50, 2) := by decide +kernel
theorem dX3_init_113 : decode cX3_init 113 = .ok (.iastore, 1) := by decide +kernel
theorem dX3_init_114 : decode cX3_init 114 = .ok (.aload_n 0, 1) := by decide +kernel
theorem dX3_init_115 : decode cX3_init 115 = .ok (.getfield 18, 3) := by decide +kernel
theorem dX3_init_118 : decode cX3_init 118 = .ok (.iload_n 1, 1) := by decide +kernel
theorem dX3_init_119 : decode cX3_init 119 = .ok (.iconst 3, 1) := by decide +kernel
theorem dX3_init_120 : decode cX3_init 120 = .ok (.iastore, 1) := by decide +kernel
theorem dX3_init_121 : decode cX3_init 121 = .ok (.iinc 1 1, 3) := by decide +kernel
theorem dX3_init_124 : decode cX3_init 124 = .ok (.goto (-31), 3) := by decide +kernel
theorem dX3_init_127 : decode cX3_init 127 = .ok (.return_, 1) := by decide +kernel
theorem dX3_becomes_0 : decode cX3_becomes 0 = .ok (.aload_n 1, 1) := by decide +kernel
theorem dX3_becomes_1 : decode cX3_becomes 1 = .ok (.getfield 9, 3) := by decide +kernel
theorem dX3_becomes_4 : decode cX3_becomes 4 = .ok (.iconst 0, 1) := by decide +kernel
theorem dX3_becomes_5 : decode cX3_becomes 5 = .ok (.aload_n 0, 1) := by decide +kernel
theorem dX3_becomes_6 : decode cX3_becomes 6 = .ok (.getfield 9, 3) := by decide +kernel
theorem dX3_becomes_9 : decode cX3_becomes 9 = .ok (.iconst 0, 1) := by decide +kernel
theorem dX3_becomes_10 : decode cX3_becomes 10 = .ok (.bipush 8, 2) := by decide +kernel
theorem dX3_becomes_12 : decode cX3_becomes 12 = .ok (.invokestatic 49, 3) := by decide +kernel
theorem dX3_becomes_15 : decode cX3_becomes 15 = .ok (.aload_n 1, 1) := by decide +kernel
theorem dX3_becomes_16 : decode cX3_becomes 16 = .ok (.getfield 15, 3) := by decide +kernel
theorem dX3_becomes_19 : decode cX3_becomes 19 = .ok (.iconst 0, 1) := by decide +kernel
theorem dX3_becomes_20 : decode cX3_becomes 20 = .ok (.aload_n 0, 1) := by decide +kernel
theorem dX3_becomes_21 : decode cX3_becomes 21 = .ok (.getfield 15, 3) := by decide +kernel
theorem dX3_becomes_24 : decode cX3_becomes 24 = .ok (.iconst 0, 1) := by decide +kernel
theorem dX3_becomes_25 : decode cX3_becomes 25 = .ok (.bipush 8, 2) := by decide +kernel
theorem dX3_becomes_27 : decode cX3_becomes 27 = .ok (.invokestatic 49, 3) := by decide +kernel
theorem dX3_becomes_30 : decode cX3_becomes 30 = .ok (.aload_n 1, 1) := by decide +kernel
theorem dX3_becomes_31 : decode cX3_becomes 31 = .ok (.getfield 18, 3) := by decide +kernel
theorem dX3_becomes_34 : decode cX3_becomes 34 = .ok (.iconst 0, 1) := by decide +kernel
theorem dX3_becomes_35 : decode cX3_becomes 35 = .ok (.aload_n 0, 1) := by decide +kernel
theorem dX3_becomes_36 : decode cX3_becomes 36 = .ok (.getfield 18, 3) := by decide +kernel
theorem dX3_becomes_39 : decode cX3_becomes 39 = .ok (.iconst 0, 1) := by decide +kernel
theorem dX3_becomes_40 : decode cX3_becomes 40 = .ok (.bipush 8, 2) := by decide +kernel
theorem dX3_becomes_42 : decode cX3_becomes 42 = .ok (.invokestatic 49, 3) := by decide +kernel
theorem dX3_becomes_45 : decode cX3_becomes 45 = .ok (.aload_n 1, 1) := by decide +kernel
theorem dX3_becomes_46 : decode cX3_becomes 46 = .ok (.getfield 21, 3) := by decide +kernel
theorem dX3_becomes_49 : decode cX3_becomes 49 = .ok (.iconst 0, 1) := by decide +kernel
theorem dX3_becomes_50 : decode cX3_becomes 50 = .ok (.aload_n 0, 1) := by decide +kernel
theorem dX3_becomes_51 : decode cX3_becomes 51 = .ok (.getfield 21, 3) := by decide +kernel
theorem dX3_becomes_54 : decode cX3_becomes 54 = .ok (.iconst 0, 1) := by decide +kernel
theorem dX3_becomes_55 : decode cX3_becomes 55 = .ok (.bipush 8, 2) := by decide +kernel
theorem dX3_becomes_57 : decode cX3_becomes 57 = .ok (.invokestatic 49, 3) := by decide +kernel
theorem dX3_becomes_60 : decode cX3_becomes 60 = .ok (.aload_n 1, 1) := by decide +kernel
theorem dX3_becomes_61 : decode cX3_becomes 61 = .ok (.getfield 28, 3) := by decide +kernel
theorem dX3_becomes_64 : decode cX3_becomes 64 = .ok (.iconst 0, 1) := by decide +kernel
theorem dX3_becomes_65 : decode cX3_becomes 65 = .ok (.aload_n 0, 1) := by decide +kernel
theorem dX3_becomes_66 : decode cX3_becomes 66 = .ok (.getfield 28, 3) := by decide +kernel
theorem dX3_becomes_69 : decode cX3_becomes 69 = .ok (.iconst 0, 1) := by decide +kernel
theorem dX3_becomes_70 : decode cX3_becomes 70 = .ok (.bipush 10, 2) := by decide +kernel
theorem dX3_becomes_72 : decode cX3_becomes 72 = .ok (.invokestatic 49, 3) := by decide +kernel
theorem dX3_becomes_75 : decode cX3_becomes 75 = .ok (.aload_n 1, 1) := by decide +kernel
theorem dX3_becomes_76 : decode cX3_becomes 76 = .ok (.getfield 31, 3) := by decide +kernel
theorem dX3_becomes_79 : decode cX3_becomes 79 = .ok (.iconst 0, 1) := by decide +kernel
theorem dX3_becomes_80 : decode cX3_becomes 80 = .ok (.aload_n 0, 1) := by decide +kernel
theorem dX3_becomes_81 : decode cX3_becomes 81 = .ok (.getfield 31, 3) := by decide +kernel
theorem dX3_becomes_84 : decode cX3_becomes 84 = .ok (.iconst 0, 1) := by decide +kernel
theorem dX3_becomes_85 : decode cX3_becomes 85 = .ok (.bipush 10, 2) := by decide +kernel
theorem dX3_becomes_87 : decode cX3_becomes 87 = .ok (.invokestatic 49, 3) := by decide +kernel
theorem dX3_becomes_90 : decode cX3_becomes 90 = .ok (.aload_n 1, 1) := by decide +kernel
theorem dX3_becomes_91 : decode cX3_becomes 91 = .ok (.getfield 34, 3) := by decide +kernel
theorem dX3_becomes_94 : decode cX3_becomes 94 = .ok (.iconst 0, 1) := by decide +kernel
theorem dX3_becomes_95 : decode cX3_becomes 95 = .ok (.aload_n 0, 1) := by decide +kernel
theorem dX3_becomes_96 : decode cX3_becomes 96 = .ok (.getfield 34, 3) := by decide +kernel
theorem dX3_becomes_99 : decode cX3_becomes 99 = .ok (.iconst 0, 1) := by decide +kernel
theorem dX3_becomes_100 : decode cX3_becomes 100 = .ok (.bipush 10, 2) := by decide +kernel
theorem dX3_becomes_102 : decode cX3_becomes 102 = .ok (.invokestatic 49, 3) := by decide +kernel
theorem dX3_becomes_105 : decode cX3_becomes 105 = .ok (.aload_n 1, 1) := by decide +kernel
theorem dX3_becomes_106 : decode cX3_becomes 106 = .ok (.getfield 37, 3) := by decide +kernel
theorem dX3_becomes_109 : decode cX3_becomes 109 = .ok (.iconst 0, 1) := by decide +kernel
theorem dX3_becomes_110 : decode cX3_becomes 110 = .ok (.aload_n 0, 1) := by decide +kernel
theorem dX3_becomes_111 : decode cX3_becomes 111 = .ok (.getfield 37, 3) := by decide +kernel
theorem dX3_becomes_114 : decode cX3_becomes 114 = .ok (.iconst 0, 1) := by decide +kernel
theorem dX3_becomes_115 : decode cX3_becomes 115 = .ok (.bipush 10, 2) := by decide +kernel
theorem dX3_becomes_117 : decode cX3_becomes 117 = .ok (.invokestatic 49, 3) := by decide +kernel
theorem dX3_becomes_120 : decode cX3_becomes 120 = .ok (.aload_n 1, 1) := by decide +kernel
theorem dX3_becomes_121 : decode cX3_becomes 121 = .ok (.getfield 40, 3) := by decide +kernel
theorem dX3_becomes_124 : decode cX3_becomes 124 = .ok (.iconst 0, 1) := by decide +kernel
theorem dX3_becomes_125 : decode cX3_becomes 125 = .ok (.aload_n 0, 1) := by decide +kernel
theorem dX3_becomes_126 : decode cX3_becomes 126 = .ok (.getfield 40, 3) := by decide +kernel
theorem dX3_becomes_129 : decode cX3_becomes 129 = .ok (.iconst 0, 1) := by decide +kernel
theorem dX3_becomes_130 : decode cX3_becomes 130 = .ok (.bipush 10, 2) := by decide +kernel
theorem dX3_becomes_132 : decode cX3_becomes 132 = .ok (.invokestatic 49, 3) := by decide +kernel
theorem dX3_becomes_135 : decode cX3_becomes 135 = .ok (.aload_n 0, 1) := by decide +kernel
theorem dX3_becomes_136 : decode cX3_becomes 136 = .ok (.aload_n 1, 1) := by decide +kernel
theorem dX3_becomes_137 : decode cX3_becomes 137 = .ok (.getfield 24, 3) := by decide +kernel
theorem dX3_becomes_140 : decode cX3_becomes 140 = .ok (.putfield 24, 3) := by decide +kernel
theorem dX3_becomes_143 : decode cX3_becomes 143 = .ok (.aload_n 0, 1) := by decide +kernel
theorem dX3_becomes_144 : decode cX3_becomes 144 = .ok (.aload_n 1, 1) := by decide +kernel
theorem dX3_becomes_145 : decode cX3_becomes 145 = .ok (.getfield 43, 3) := by decide +kernel
theorem dX3_becomes_148 : decode cX3_becomes 148 = .ok (.putfield 43, 3) := by decide +kernel
theorem dX3_becomes_151 : decode cX3_becomes 151 = .ok (.aload_n 0, 1) := by decide +kernel
theorem dX3_becomes_152 : decode cX3_becomes 152 = .ok (.aload_n 1, 1) := by decide +kernel
theorem dX3_becomes_153 : decode cX3_becomes 153 = .ok (.getfield 46, 3) := by decide +kernel
theorem dX3_becomes_156 : decode cX3_becomes 156 = .ok (.putfield 46, 3) := by decide +kernel
theorem dX3_becomes_159 : decode cX3_becomes 159 = .ok (.return_, 1) := by decide +kernel
theorem dX3_isFull_0 : decode cX3_isFull 0 = .ok (.aload_n 0, 1) := by decide +kernel
theorem dX3_isFull_1 : decode cX3_isFull 1 = .ok (.getfield 24, 3) := by decide +kernel
theorem dX3_isFull_4 : decode cX3_isFull 4 = .ok (.bipush 10, 2) := by decide +kernel
theorem dX3_isFull_6 : decode cX3_isFull 6 = .ok (.if_icmp .lt 7, 3) := by decide +kernel
theorem dX3_isFull_9 : decode cX3_isFull 9 = .ok (.iconst 1, 1) := by decide +kernel
theorem dX3_isFull_10 : decode cX3_isFull 10 = .ok (.goto 4, 3) := by decide +kernel
theorem dX3_isFull_13 : decode cX3_isFull 13 = .ok (.iconst 0, 1) := by decide +kernel
theorem dX3_isFull_14 : decode cX3_isFull 14 = .ok (.ireturn, 1) := by decide +kernel
theorem dX3_addOne_0 : decode cX3_addOne 0 = .ok (.aload_n 0, 1) := by decide +kernel
theorem dX3_addOne_1 : decode cX3_addOne 1 = .ok (.invokevirtual 55, 3) := by decide +kernel
theorem dX3_addOne_4 : decode cX3_addOne 4 = .ok (.ifCond .eq 5, 3) := by decide +kernel
theorem dX3_addOne_7 : decode cX3_addOne 7 = .ok (.iconst (-1), 1) := by decide +kernel
theorem dX3_addOne_8 : decode cX3_addOne 8 = .ok (.ireturn, 1) := by decide +kernel
theorem dX3_addOne_9 : decode cX3_addOne 9 = .ok (.aload_n 0, 1) := by decide +kernel
theorem dX3_addOne_10 : decode cX3_addOne 10 = .ok (.getfield 24, 3) := by decide +kernel
theorem dX3_addOne_13 : decode cX3_addOne 13 = .ok (.istore 4, 2) := by decide +kernel
theorem dX3_addOne_15 : decode cX3_addOne 15 = .ok (.aload_n 0, 1) := by decide +kernel
theorem dX3_addOne_16 : decode cX3_addOne 16 = .ok (.getfield 28, 3) := by decide +kernel
theorem dX3_addOne_19 : decode cX3_addOne 19 = .ok (.iload 4, 2) := by decide +kernel
theorem dX3_addOne_21 : decode cX3_addOne 21 = .ok (.iload_n 1, 1) := by decide +kernel
theorem dX3_addOne_22 : decode cX3_addOne 22 = .ok (.iastore, 1) := by decide +kernel
theorem dX3_addOne_23 : decode cX3_addOne 23 = .ok (.aload_n 0, 1) := by decide +kernel
theorem dX3_addOne_24 : decode cX3_addOne 24 = .ok (.getfield 31, 3) := by decide +kernel
theorem dX3_addOne_27 : decode cX3_addOne 27 = .ok (.iload 4, 2) := by decide +kernel
theorem dX3_addOne_29 : decode cX3_addOne 29 = .ok (.iload_n 2, 1) := by decide +kernel
theorem dX3_addOne_30 : decode cX3_addOne 30 = .ok (.iastore, 1) := by decide +kernel
theorem dX3_addOne_31 : decode cX3_addOne 31 = .ok (.aload_n 0, 1) := by decide +kernel
theorem dX3_addOne_32 : decode cX3_addOne 32 = .ok (.getfield 34, 3) := by decide +kernel
theorem dX3_addOne_35 : decode cX3_addOne 35 = .ok (.iload 4, 2) := by decide +kernel
theorem dX3_addOne_37 : decode cX3_addOne 37 = .ok (.iload_n 3, 1) := by decide +kernel
theorem dX3_addOne_38 : decode cX3_addOne 38 = .ok (.iastore, 1) := by decide +kernel
theorem dX3_addOne_39 : decode cX3_addOne 39 = .ok (.aload_n 0, 1) := by decide +kernel
theorem dX3_addOne_40 : decode cX3_addOne 40 = .ok (.getfield 37, 3) := by decide +kernel
theorem dX3_addOne_43 : decode cX3_addOne 43 = .ok (.iload 4, 2) := by decide +kernel
theorem dX3_addOne_45 : decode cX3_addOne 45 = .ok (.iconst 0, 1) := by decide +kernel
theorem dX3_addOne_46 : decode cX3_addOne 46 = .ok (.iastore, 1) := by decide +kernel
theorem dX3_addOne_47 : decode cX3_addOne 47 = .ok (.aload_n 0, 1) := by decide +kernel
theorem dX3_addOne_48 : decode cX3_addOne 48 = .ok (.getfield 40, 3) := by decide +kernel
theorem dX3_addOne_51 : decode cX3_addOne 51 = .ok (.iload 4, 2) := by decide +kernel
theorem dX3_addOne_53 : decode cX3_addOne 53 = .ok (.iconst (-1), 1) := by decide +kernel
theorem dX3_addOne_54 : decode cX3_addOne 54 = .ok (.iastore, 1) := by decide +kernel
theorem dX3_addOne_55 : decode cX3_addOne 55 = .ok (.aload_n 0, 1) := by decide +kernel
theorem dX3_addOne_56 : decode cX3_addOne 56 = .ok (.dup, 1) := by decide +kernel
theorem dX3_addOne_57 : decode cX3_addOne 57 = .ok (.getfield 24, 3) := by decide +kernel
theorem dX3_addOne_60 : decode cX3_addOne 60 = .ok (.iconst 1, 1) := by decide +kernel
theorem dX3_addOne_61 : decode cX3_addOne 61 = .ok (.iadd, 1) := by decide +kernel
theorem dX3_addOne_62 : decode cX3_addOne 62 = .ok (.putfield 24, 3) := by decide +kernel
theorem dX3_addOne_65 : decode cX3_addOne 65 = .ok (.iload 4, 2) := by decide +kernel
theorem dX3_addOne_67 : decode cX3_addOne 67 = .ok (.ireturn, 1) := by decide +kernel
theorem dX3_eatsOf_0 : decode cX3_eatsOf 0 = .ok (.aload_n 0, 1) := by decide +kernel
theorem dX3_eatsOf_1 : decode cX3_eatsOf 1 = .ok (.getfield 28, 3) := by decide +kernel
theorem dX3_eatsOf_4 : decode cX3_eatsOf 4 = .ok (.iload_n 1, 1) := by decide +kernel
theorem dX3_eatsOf_5 : decode cX3_eatsOf 5 = .ok (.iaload, 1) := by decide +kernel
theorem dX3_eatsOf_6 : decode cX3_eatsOf 6 = .ok (.aload_n 0, 1) := by decide +kernel
theorem dX3_eatsOf_7 : decode cX3_eatsOf 7 = .ok (.getfield 34, 3) := by decide +kernel
theorem dX3_eatsOf_10 : decode cX3_eatsOf 10 = .ok (.iload_n 1, 1) := by decide +kernel
theorem dX3_eatsOf_11 : decode cX3_eatsOf 11 = .ok (.iaload, 1) := by decide +kernel
theorem dX3_eatsOf_12 : decode cX3_eatsOf 12 = .ok (.aload_n 0, 1) := by decide +kernel
theorem dX3_eatsOf_13 : decode cX3_eatsOf 13 = .ok (.getfield 37, 3) := by decide +kernel
theorem dX3_eatsOf_16 : decode cX3_eatsOf 16 = .ok (.iload_n 1, 1) := by decide +kernel
theorem dX3_eatsOf_17 : decode cX3_eatsOf 17 = .ok (.iaload, 1) := by decide +kernel
theorem dX3_eatsOf_18 : decode cX3_eatsOf 18 = .ok (.invokestatic 59, 3) := by decide +kernel
theorem dX3_eatsOf_21 : decode cX3_eatsOf 21 = .ok (.ireturn, 1) := by decide +kernel
theorem dX3_needsOf_0 : decode cX3_needsOf 0 = .ok (.aload_n 0, 1) := by decide +kernel
theorem dX3_needsOf_1 : decode cX3_needsOf 1 = .ok (.getfield 28, 3) := by decide +kernel
theorem dX3_needsOf_4 : decode cX3_needsOf 4 = .ok (.iload_n 1, 1) := by decide +kernel
theorem dX3_needsOf_5 : decode cX3_needsOf 5 = .ok (.iaload, 1) := by decide +kernel
theorem dX3_needsOf_6 : decode cX3_needsOf 6 = .ok (.aload_n 0, 1) := by decide +kernel
theorem dX3_needsOf_7 : decode cX3_needsOf 7 = .ok (.getfield 34, 3) := by decide +kernel
theorem dX3_needsOf_10 : decode cX3_needsOf 10 = .ok (.iload_n 1, 1) := by decide +kernel
theorem dX3_needsOf_11 : decode cX3_needsOf 11 = .ok (.iaload, 1) := by decide +kernel
theorem dX3_needsOf_12 : decode cX3_needsOf 12 = .ok (.invokestatic 65, 3) := by decide +kernel
theorem dX3_needsOf_15 : decode cX3_needsOf 15 = .ok (.ireturn, 1) := by decide +kernel
theorem dX3_growsOf_0 : decode cX3_growsOf 0 = .ok (.aload_n 0, 1) := by decide +kernel
theorem dX3_growsOf_1 : decode cX3_growsOf 1 = .ok (.getfield 28, 3) := by decide +kernel
theorem dX3_growsOf_4 : decode cX3_growsOf 4 = .ok (.iload_n 1, 1) := by decide +kernel
theorem dX3_growsOf_5 : decode cX3_growsOf 5 = .ok (.iaload, 1) := by decide +kernel
theorem dX3_growsOf_6 : decode cX3_growsOf 6 = .ok (.aload_n 0, 1) := by decide +kernel
theorem dX3_growsOf_7 : decode cX3_growsOf 7 = .ok (.getfield 34, 3) := by decide +kernel
theorem dX3_growsOf_10 : decode cX3_growsOf 10 = .ok (.iload_n 1, 1) := by decide +kernel
theorem dX3_growsOf_11 : decode cX3_growsOf 11 = .ok (.iaload, 1) := by decide +kernel
theorem dX3_growsOf_12 : decode cX3_growsOf 12 = .ok (.aload_n 0, 1) := by decide +kernel
theorem dX3_growsOf_13 : decode cX3_growsOf 13 = .ok (.getfield 37, 3) := by decide +kernel
theorem dX3_growsOf_16 : decode cX3_growsOf 16 = .ok (.iload_n 1, 1) := by decide +kernel
theorem dX3_growsOf_17 : decode cX3_growsOf 17 = .ok (.iaload, 1) := by decide +kernel
theorem dX3_growsOf_18 : decode cX3_growsOf 18 = .ok (.invokestatic 69, 3) := by decide +kernel
theorem dX3_growsOf_21 : decode cX3_growsOf 21 = .ok (.ireturn, 1) := by decide +kernel
theorem dX3_isTrue_0 : decode cX3_isTrue 0 = .ok (.aload_n 0, 1) := by decide +kernel
theorem dX3_isTrue_1 : decode cX3_isTrue 1 = .ok (.getfield 46, 3) := by decide +kernel
theorem dX3_isTrue_4 : decode cX3_isTrue 4 = .ok (.iconst 1, 1) := by decide +kernel
theorem dX3_isTrue_5 : decode cX3_isTrue 5 = .ok (.iload_n 1, 1) := by decide +kernel
theorem dX3_isTrue_6 : decode cX3_isTrue 6 = .ok (.ishl, 1) := by decide +kernel
theorem dX3_isTrue_7 : decode cX3_isTrue 7 = .ok (.iand, 1) := by decide +kernel
theorem dX3_isTrue_8 : decode cX3_isTrue 8 = .ok (.ifCond .eq 7, 3) := by decide +kernel
theorem dX3_isTrue_11 : decode cX3_isTrue 11 = .ok (.iconst 1, 1) := by decide +kernel
theorem dX3_isTrue_12 : decode cX3_isTrue 12 = .ok (.goto 4, 3) := by decide +kernel
theorem dX3_isTrue_15 : decode cX3_isTrue 15 = .ok (.iconst 0, 1) := by decide +kernel
theorem dX3_isTrue_16 : decode cX3_isTrue 16 = .ok (.ireturn, 1) := by decide +kernel
theorem dX3_hasBedFree_0 : decode cX3_hasBedFree 0 = .ok (.aload_n 0, 1) := by decide +kernel
theorem dX3_hasBedFree_1 : decode cX3_hasBedFree 1 = .ok (.getfield 21, 3) := by decide +kernel
theorem dX3_hasBedFree_4 : decode cX3_hasBedFree 4 = .ok (.iload_n 1, 1) := by decide +kernel
theorem dX3_hasBedFree_5 : decode cX3_hasBedFree 5 = .ok (.iaload, 1) := by decide +kernel
theorem dX3_hasBedFree_6 : decode cX3_hasBedFree 6 = .ok (.aload_n 0, 1) := by decide +kernel
theorem dX3_hasBedFree_7 : decode cX3_hasBedFree 7 = .ok (.getfield 9, 3) := by decide +kernel
theorem dX3_hasBedFree_10 : decode cX3_hasBedFree 10 = .ok (.iload_n 1, 1) := by decide +kernel
theorem dX3_hasBedFree_11 : decode cX3_hasBedFree 11 = .ok (.iaload, 1) := by decide +kernel
theorem dX3_hasBedFree_12 : decode cX3_hasBedFree 12 = .ok (.if_icmp .ge 7, 3) := by decide +kernel
theorem dX3_hasBedFree_15 : decode cX3_hasBedFree 15 = .ok (.iconst 1, 1) := by decide +kernel
theorem dX3_hasBedFree_16 : decode cX3_hasBedFree 16 = .ok (.goto 4, 3) := by decide +kernel
theorem dX3_hasBedFree_19 : decode cX3_hasBedFree 19 = .ok (.iconst 0, 1) := by decide +kernel
theorem dX3_hasBedFree_20 : decode cX3_hasBedFree 20 = .ok (.ireturn, 1) := by decide +kernel
theorem dX3_wouldTake_0 : decode cX3_wouldTake 0 = .ok (.aload_n 0, 1) := by decide +kernel
theorem dX3_wouldTake_1 : decode cX3_wouldTake 1 = .ok (.iload_n 1, 1) := by decide +kernel
theorem dX3_wouldTake_2 : decode cX3_wouldTake 2 = .ok (.invokevirtual 72, 3) := by decide +kernel
theorem dX3_wouldTake_5 : decode cX3_wouldTake 5 = .ok (.ifCond .eq 17, 3) := by decide +kernel
theorem dX3_wouldTake_8 : decode cX3_wouldTake 8 = .ok (.aload_n 0, 1) := by decide +kernel
theorem dX3_wouldTake_9 : decode cX3_wouldTake 9 = .ok (.getfield 18, 3) := by decide +kernel
theorem dX3_wouldTake_12 : decode cX3_wouldTake 12 = .ok (.iload_n 1, 1) := by decide +kernel
theorem dX3_wouldTake_13 : decode cX3_wouldTake 13 = .ok (.iaload, 1) := by decide +kernel
theorem dX3_wouldTake_14 : decode cX3_wouldTake 14 = .ok (.iload_n 2, 1) := by decide +kernel
theorem dX3_wouldTake_15 : decode cX3_wouldTake 15 = .ok (.if_icmp .lt 7, 3) := by decide +kernel
theorem dX3_wouldTake_18 : decode cX3_wouldTake 18 = .ok (.iconst 1, 1) := by decide +kernel
theorem dX3_wouldTake_19 : decode cX3_wouldTake 19 = .ok (.goto 4, 3) := by decide +kernel
theorem dX3_wouldTake_22 : decode cX3_wouldTake 22 = .ok (.iconst 0, 1) := by decide +kernel
theorem dX3_wouldTake_23 : decode cX3_wouldTake 23 = .ok (.ireturn, 1) := by decide +kernel
theorem dX3_hostFor_0 : decode cX3_hostFor 0 = .ok (.iconst (-1), 1) := by decide +kernel
theorem dX3_hostFor_1 : decode cX3_hostFor 1 = .ok (.istore_n 2, 1) := by decide +kernel
theorem dX3_hostFor_2 : decode cX3_hostFor 2 = .ok (.aload_n 0, 1) := by decide +kernel
theorem dX3_hostFor_3 : decode cX3_hostFor 3 = .ok (.aload_n 0, 1) := by decide +kernel
theorem dX3_hostFor_4 : decode cX3_hostFor 4 = .ok (.getfield 31, 3) := by decide +kernel
theorem dX3_hostFor_7 : decode cX3_hostFor 7 = .ok (.iload_n 1, 1) := by decide +kernel
theorem dX3_hostFor_8 : decode cX3_hostFor 8 = .ok (.iaload, 1) := by decide +kernel
theorem dX3_hostFor_9 : decode cX3_hostFor 9 = .ok (.invokevirtual 76, 3) := by decide +kernel
theorem dX3_hostFor_12 : decode cX3_hostFor 12 = .ok (.ifCond .eq 5, 3) := by decide +kernel
theorem dX3_hostFor_15 : decode cX3_hostFor 15 = .ok (.iload_n 2, 1) := by decide +kernel
theorem dX3_hostFor_16 : decode cX3_hostFor 16 = .ok (.ireturn, 1) := by decide +kernel
theorem dX3_hostFor_17 : decode cX3_hostFor 17 = .ok (.aload_n 0, 1) := by decide +kernel
theorem dX3_hostFor_18 : decode cX3_hostFor 18 = .ok (.iload_n 1, 1) := by decide +kernel
theorem dX3_hostFor_19 : decode cX3_hostFor 19 = .ok (.invokevirtual 79, 3) := by decide +kernel
theorem dX3_hostFor_22 : decode cX3_hostFor 22 = .ok (.istore_n 3, 1) := by decide +kernel
theorem dX3_hostFor_23 : decode cX3_hostFor 23 = .ok (.iconst 0, 1) := by decide +kernel
theorem dX3_hostFor_24 : decode cX3_hostFor 24 = .ok (.istore 4, 2) := by decide +kernel
theorem dX3_hostFor_26 : decode cX3_hostFor 26 = .ok (.iload 4, 2) := by decide +kernel
theorem dX3_hostFor_28 : decode cX3_hostFor 28 = .ok (.bipush 8, 2) := by decide +kernel
theorem dX3_hostFor_30 : decode cX3_hostFor 30 = .ok (.if_icmp .ge 43, 3) := by decide +kernel
theorem dX3_hostFor_33 : decode cX3_hostFor 33 = .ok (.aload_n 0, 1) := by decide +kernel
theorem dX3_hostFor_34 : decode cX3_hostFor 34 = .ok (.iload 4, 2) := by decide +kernel
theorem dX3_hostFor_36 : decode cX3_hostFor 36 = .ok (.iload_n 3, 1) := by decide +kernel
theorem dX3_hostFor_37 : decode cX3_hostFor 37 = .ok (.invokevirtual 83, 3) := by decide +kernel
theorem dX3_hostFor_40 : decode cX3_hostFor 40 = .ok (.ifCond .eq 27, 3) := by decide +kernel
theorem dX3_hostFor_43 : decode cX3_hostFor 43 = .ok (.iload_n 2, 1) := by decide +kernel
theorem dX3_hostFor_44 : decode cX3_hostFor 44 = .ok (.iconst (-1), 1) := by decide +kernel
theorem dX3_hostFor_45 : decode cX3_hostFor 45 = .ok (.if_icmp .eq 19, 3) := by decide +kernel
theorem dX3_hostFor_48 : decode cX3_hostFor 48 = .ok (.aload_n 0, 1) := by decide +kernel
theorem dX3_hostFor_49 : decode cX3_hostFor 49 = .ok (.getfield 18, 3) := by decide +kernel
theorem dX3_hostFor_52 : decode cX3_hostFor 52 = .ok (.iload 4, 2) := by decide +kernel
theorem dX3_hostFor_54 : decode cX3_hostFor 54 = .ok (.iaload, 1) := by decide +kernel
theorem dX3_hostFor_55 : decode cX3_hostFor 55 = .ok (.aload_n 0, 1) := by decide +kernel
theorem dX3_hostFor_56 : decode cX3_hostFor 56 = .ok (.getfield 18, 3) := by decide +kernel
theorem dX3_hostFor_59 : decode cX3_hostFor 59 = .ok (.iload_n 2, 1) := by decide +kernel
theorem dX3_hostFor_60 : decode cX3_hostFor 60 = .ok (.iaload, 1) := by decide +kernel
theorem dX3_hostFor_61 : decode cX3_hostFor 61 = .ok (.if_icmp .le 6, 3) := by decide +kernel
theorem dX3_hostFor_64 : decode cX3_hostFor 64 = .ok (.iload 4, 2) := by decide +kernel
theorem dX3_hostFor_66 : decode cX3_hostFor 66 = .ok (.istore_n 2, 1) := by decide +kernel
theorem dX3_hostFor_67 : decode cX3_hostFor 67 = .ok (.iinc 4 1, 3) := by decide +kernel
theorem dX3_hostFor_70 : decode cX3_hostFor 70 = .ok (.goto (-44), 3) := by decide +kernel
theorem dX3_hostFor_73 : decode cX3_hostFor 73 = .ok (.iload_n 2, 1) := by decide +kernel
theorem dX3_hostFor_74 : decode cX3_hostFor 74 = .ok (.ireturn, 1) := by decide +kernel
theorem dX3_lodge_0 : decode cX3_lodge 0 = .ok (.aload_n 0, 1) := by decide +kernel
theorem dX3_lodge_1 : decode cX3_lodge 1 = .ok (.getfield 40, 3) := by decide +kernel
theorem dX3_lodge_4 : decode cX3_lodge 4 = .ok (.iload_n 1, 1) := by decide +kernel
theorem dX3_lodge_5 : decode cX3_lodge 5 = .ok (.iaload, 1) := by decide +kernel
theorem dX3_lodge_6 : decode cX3_lodge 6 = .ok (.istore_n 3, 1) := by decide +kernel
theorem dX3_lodge_7 : decode cX3_lodge 7 = .ok (.iload_n 3, 1) := by decide +kernel
theorem dX3_lodge_8 : decode cX3_lodge 8 = .ok (.ifCond .lt 13, 3) := by decide +kernel
theorem dX3_lodge_11 : decode cX3_lodge 11 = .ok (.aload_n 0, 1) := by decide +kernel
theorem dX3_lodge_12 : decode cX3_lodge 12 = .ok (.getfield 21, 3) := by decide +kernel
theorem dX3_lodge_15 : decode cX3_lodge 15 = .ok (.iload_n 3, 1) := by decide +kernel
theorem dX3_lodge_16 : decode cX3_lodge 16 = .ok (.dup2, 1) := by decide +kernel
theorem dX3_lodge_17 : decode cX3_lodge 17 = .ok (.iaload, 1) := by decide +kernel
theorem dX3_lodge_18 : decode cX3_lodge 18 = .ok (.iconst 1, 1) := by decide +kernel
theorem dX3_lodge_19 : decode cX3_lodge 19 = .ok (.isub, 1) := by decide +kernel
theorem dX3_lodge_20 : decode cX3_lodge 20 = .ok (.iastore, 1) := by decide +kernel
theorem dX3_lodge_21 : decode cX3_lodge 21 = .ok (.iload_n 2, 1) := by decide +kernel
theorem dX3_lodge_22 : decode cX3_lodge 22 = .ok (.ifCond .lt 13, 3) := by decide +kernel
theorem dX3_lodge_25 : decode cX3_lodge 25 = .ok (.aload_n 0, 1) := by decide +kernel
theorem dX3_lodge_26 : decode cX3_lodge 26 = .ok (.getfield 21, 3) := by decide +kernel
theorem dX3_lodge_29 : decode cX3_lodge 29 = .ok (.iload_n 2, 1) := by decide +kernel
theorem dX3_lodge_30 : decode cX3_lodge 30 = .ok (.dup2, 1) := by decide +kernel
theorem dX3_lodge_31 : decode cX3_lodge 31 = .ok (.iaload, 1) := by decide +kernel
theorem dX3_lodge_32 : decode cX3_lodge 32 = .ok (.iconst 1, 1) := by decide +kernel
theorem dX3_lodge_33 : decode cX3_lodge 33 = .ok (.iadd, 1) := by decide +kernel
theorem dX3_lodge_34 : decode cX3_lodge 34 = .ok (.iastore, 1) := by decide +kernel
theorem dX3_lodge_35 : decode cX3_lodge 35 = .ok (.aload_n 0, 1) := by decide +kernel
theorem dX3_lodge_36 : decode cX3_lodge 36 = .ok (.getfield 40, 3) := by decide +kernel
theorem dX3_lodge_39 : decode cX3_lodge 39 = .ok (.iload_n 1, 1) := by decide +kernel
theorem dX3_lodge_40 : decode cX3_lodge 40 = .ok (.iload_n 2, 1) := by decide +kernel
theorem dX3_lodge_41 : decode cX3_lodge 41 = .ok (.iastore, 1) := by decide +kernel
theorem dX3_lodge_42 : decode cX3_lodge 42 = .ok (.return_, 1) := by decide +kernel
theorem dX3_improveBy_0 : decode cX3_improveBy 0 = .ok (.aload_n 0, 1) := by decide +kernel
theorem dX3_improveBy_1 : decode cX3_improveBy 1 = .ok (.getfield 34, 3) := by decide +kernel
theorem dX3_improveBy_4 : decode cX3_improveBy 4 = .ok (.iload_n 1, 1) := by decide +kernel
theorem dX3_improveBy_5 : decode cX3_improveBy 5 = .ok (.bipush 99, 2) := by decide +kernel
theorem dX3_improveBy_7 : decode cX3_improveBy 7 = .ok (.aload_n 0, 1) := by decide +kernel
theorem dX3_improveBy_8 : decode cX3_improveBy 8 = .ok (.getfield 34, 3) := by decide +kernel
theorem dX3_improveBy_11 : decode cX3_improveBy 11 = .ok (.iload_n 1, 1) := by decide +kernel
theorem dX3_improveBy_12 : decode cX3_improveBy 12 = .ok (.iaload, 1) := by decide +kernel
theorem dX3_improveBy_13 : decode cX3_improveBy 13 = .ok (.iload_n 2, 1) := by decide +kernel
theorem dX3_improveBy_14 : decode cX3_improveBy 14 = .ok (.iadd, 1) := by decide +kernel
theorem dX3_improveBy_15 : decode cX3_improveBy 15 = .ok (.invokestatic 87, 3) := by decide +kernel
theorem dX3_improveBy_18 : decode cX3_improveBy 18 = .ok (.iastore, 1) := by decide +kernel
theorem dX3_improveBy_19 : decode cX3_improveBy 19 = .ok (.aload_n 0, 1) := by decide +kernel
theorem dX3_improveBy_20 : decode cX3_improveBy 20 = .ok (.getfield 40, 3) := by decide +kernel
theorem dX3_improveBy_23 : decode cX3_improveBy 23 = .ok (.iload_n 1, 1) := by decide +kernel
theorem dX3_improveBy_24 : decode cX3_improveBy 24 = .ok (.iaload, 1) := by decide +kernel
theorem dX3_improveBy_25 : decode cX3_improveBy 25 = .ok (.istore_n 3, 1) := by decide +kernel
theorem dX3_improveBy_26 : decode cX3_improveBy 26 = .ok (.aload_n 0, 1) := by decide +kernel
theorem dX3_improveBy_27 : decode cX3_improveBy 27 = .ok (.iload_n 1, 1) := by decide +kernel
theorem dX3_improveBy_28 : decode cX3_improveBy 28 = .ok (.invokevirtual 79, 3) := by decide +kernel
theorem dX3_improveBy_31 : decode cX3_improveBy 31 = .ok (.istore 4, 2) := by decide +kernel
theorem dX3_improveBy_33 : decode cX3_improveBy 33 = .ok (.iconst 1, 1) := by decide +kernel
theorem dX3_improveBy_34 : decode cX3_improveBy 34 = .ok (.istore 5, 2) := by decide +kernel
theorem dX3_improveBy_36 : decode cX3_improveBy 36 = .ok (.iload 5, 2) := by decide +kernel
theorem dX3_improveBy_38 : decode cX3_improveBy 38 = .ok (.bipush 8, 2) := by decide +kernel
theorem dX3_improveBy_40 : decode cX3_improveBy 40 = .ok (.if_icmp .ge 37, 3) := by decide +kernel
theorem dX3_improveBy_43 : decode cX3_improveBy 43 = .ok (.iload_n 3, 1) := by decide +kernel
theorem dX3_improveBy_44 : decode cX3_improveBy 44 = .ok (.iload 5, 2) := by decide +kernel
theorem dX3_improveBy_46 : decode cX3_improveBy 46 = .ok (.iadd, 1) := by decide +kernel
theorem dX3_improveBy_47 : decode cX3_improveBy 47 = .ok (.bipush 8, 2) := by decide +kernel
theorem dX3_improveBy_49 : decode cX3_improveBy 49 = .ok (.irem, 1) := by decide +kernel
theorem dX3_improveBy_50 : decode cX3_improveBy 50 = .ok (.istore 6, 2) := by decide +kernel
theorem dX3_improveBy_52 : decode cX3_improveBy 52 = .ok (.aload_n 0, 1) := by decide +kernel
theorem dX3_improveBy_53 : decode cX3_improveBy 53 = .ok (.iload 6, 2) := by decide +kernel
theorem dX3_improveBy_55 : decode cX3_improveBy 55 = .ok (.iload 4, 2) := by decide +kernel
theorem dX3_improveBy_57 : decode cX3_improveBy 57 = .ok (.invokevirtual 83, 3) := by decide +kernel
theorem dX3_improveBy_60 : decode cX3_improveBy 60 = .ok (.ifCond .eq 11, 3) := by decide +kernel
theorem dX3_improveBy_63 : decode cX3_improveBy 63 = .ok (.aload_n 0, 1) := by decide +kernel
theorem dX3_improveBy_64 : decode cX3_improveBy 64 = .ok (.iload_n 1, 1) := by decide +kernel
theorem dX3_improveBy_65 : decode cX3_improveBy 65 = .ok (.iload 6, 2) := by decide +kernel
theorem dX3_improveBy_67 : decode cX3_improveBy 67 = .ok (.invokevirtual 92, 3) := by decide +kernel
theorem dX3_improveBy_70 : decode cX3_improveBy 70 = .ok (.return_, 1) := by decide +kernel
theorem dX3_improveBy_71 : decode cX3_improveBy 71 = .ok (.iinc 5 1, 3) := by decide +kernel
theorem dX3_improveBy_74 : decode cX3_improveBy 74 = .ok (.goto (-38), 3) := by decide +kernel
theorem dX3_improveBy_77 : decode cX3_improveBy 77 = .ok (.return_, 1) := by decide +kernel
theorem dX3_becomeTrue_0 : decode cX3_becomeTrue 0 = .ok (.iconst 0, 1) := by decide +kernel
theorem dX3_becomeTrue_1 : decode cX3_becomeTrue 1 = .ok (.istore_n 2, 1) := by decide +kernel
theorem dX3_becomeTrue_2 : decode cX3_becomeTrue 2 = .ok (.iconst 0, 1) := by decide +kernel
theorem dX3_becomeTrue_3 : decode cX3_becomeTrue 3 = .ok (.istore_n 3, 1) := by decide +kernel
theorem dX3_becomeTrue_4 : decode cX3_becomeTrue 4 = .ok (.iload_n 3, 1) := by decide +kernel
theorem dX3_becomeTrue_5 : decode cX3_becomeTrue 5 = .ok (.aload_n 0, 1) := by decide +kernel
theorem dX3_becomeTrue_6 : decode cX3_becomeTrue 6 = .ok (.getfield 24, 3) := by decide +kernel
theorem dX3_becomeTrue_9 : decode cX3_becomeTrue 9 = .ok (.if_icmp .ge 38, 3) := by decide +kernel
theorem dX3_becomeTrue_12 : decode cX3_becomeTrue 12 = .ok (.aload_n 0, 1) := by decide +kernel
theorem dX3_becomeTrue_13 : decode cX3_becomeTrue 13 = .ok (.getfield 31, 3) := by decide +kernel
theorem dX3_becomeTrue_16 : decode cX3_becomeTrue 16 = .ok (.iload_n 3, 1) := by decide +kernel
theorem dX3_becomeTrue_17 : decode cX3_becomeTrue 17 = .ok (.iaload, 1) := by decide +kernel
theorem dX3_becomeTrue_18 : decode cX3_becomeTrue 18 = .ok (.iload_n 1, 1) := by decide +kernel
theorem dX3_becomeTrue_19 : decode cX3_becomeTrue 19 = .ok (.if_icmp .ne 22, 3) := by decide +kernel
theorem dX3_becomeTrue_22 : decode cX3_becomeTrue 22 = .ok (.aload_n 0, 1) := by decide +kernel
theorem dX3_becomeTrue_23 : decode cX3_becomeTrue 23 = .ok (.getfield 40, 3) := by decide +kernel
theorem dX3_becomeTrue_26 : decode cX3_becomeTrue 26 = .ok (.iload_n 3, 1) := by decide +kernel
theorem dX3_becomeTrue_27 : decode cX3_becomeTrue 27 = .ok (.iaload, 1) := by decide +kernel
theorem dX3_becomeTrue_28 : decode cX3_becomeTrue 28 = .ok (.iconst (-1), 1) := by decide +kernel
theorem dX3_becomeTrue_29 : decode cX3_becomeTrue 29 = .ok (.if_icmp .eq 12, 3) := by decide +kernel
theorem dX3_becomeTrue_32 : decode cX3_becomeTrue 32 = .ok (.aload_n 0, 1) := by decide +kernel
theorem dX3_becomeTrue_33 : decode cX3_becomeTrue 33 = .ok (.iload_n 3, 1) := by decide +kernel
theorem dX3_becomeTrue_34 : decode cX3_becomeTrue 34 = .ok (.iconst (-1), 1) := by decide +kernel
theorem dX3_becomeTrue_35 : decode cX3_becomeTrue 35 = .ok (.invokevirtual 92, 3) := by decide +kernel
theorem dX3_becomeTrue_38 : decode cX3_becomeTrue 38 = .ok (.iinc 2 1, 3) := by decide +kernel
theorem dX3_becomeTrue_41 : decode cX3_becomeTrue 41 = .ok (.iinc 3 1, 3) := by decide +kernel
theorem dX3_becomeTrue_44 : decode cX3_becomeTrue 44 = .ok (.goto (-40), 3) := by decide +kernel
theorem dX3_becomeTrue_47 : decode cX3_becomeTrue 47 = .ok (.aload_n 0, 1) := by decide +kernel
theorem dX3_becomeTrue_48 : decode cX3_becomeTrue 48 = .ok (.dup, 1) := by decide +kernel
theorem dX3_becomeTrue_49 : decode cX3_becomeTrue 49 = .ok (.getfield 46, 3) := by decide +kernel
theorem dX3_becomeTrue_52 : decode cX3_becomeTrue 52 = .ok (.iconst 1, 1) := by decide +kernel
theorem dX3_becomeTrue_53 : decode cX3_becomeTrue 53 = .ok (.iload_n 1, 1) := by decide +kernel
theorem dX3_becomeTrue_54 : decode cX3_becomeTrue 54 = .ok (.ishl, 1) := by decide +kernel
theorem dX3_becomeTrue_55 : decode cX3_becomeTrue 55 = .ok (.ior, 1) := by decide +kernel
theorem dX3_becomeTrue_56 : decode cX3_becomeTrue 56 = .ok (.putfield 46, 3) := by decide +kernel
theorem dX3_becomeTrue_59 : decode cX3_becomeTrue 59 = .ok (.iload_n 2, 1) := by decide +kernel
theorem dX3_becomeTrue_60 : decode cX3_becomeTrue 60 = .ok (.ireturn, 1) := by decide +kernel
theorem dX3_passDays_0 : decode cX3_passDays 0 = .ok (.iconst 0, 1) := by decide +kernel
theorem dX3_passDays_1 : decode cX3_passDays 1 = .ok (.istore_n 2, 1) := by decide +kernel
theorem dX3_passDays_2 : decode cX3_passDays 2 = .ok (.iload_n 2, 1) := by decide +kernel
theorem dX3_passDays_3 : decode cX3_passDays 3 = .ok (.iload_n 1, 1) := by decide +kernel
theorem dX3_passDays_4 : decode cX3_passDays 4 = .ok (.if_icmp .ge 13, 3) := by decide +kernel
theorem dX3_passDays_7 : decode cX3_passDays 7 = .ok (.aload_n 0, 1) := by decide +kernel
theorem dX3_passDays_8 : decode cX3_passDays 8 = .ok (.invokevirtual 96, 3) := by decide +kernel
theorem dX3_passDays_11 : decode cX3_passDays 11 = .ok (.iinc 2 1, 3) := by decide +kernel
theorem dX3_passDays_14 : decode cX3_passDays 14 = .ok (.goto (-12), 3) := by decide +kernel
theorem dX3_passDays_17 : decode cX3_passDays 17 = .ok (.return_, 1) := by decide +kernel
theorem dX3_passDay_0 : decode cX3_passDay 0 = .ok (.iconst 0, 1) := by decide +kernel
theorem dX3_passDay_1 : decode cX3_passDay 1 = .ok (.istore_n 1, 1) := by decide +kernel
theorem dX3_passDay_2 : decode cX3_passDay 2 = .ok (.iload_n 1, 1) := by decide +kernel
theorem dX3_passDay_3 : decode cX3_passDay 3 = .ok (.aload_n 0, 1) := by decide +kernel
theorem dX3_passDay_4 : decode cX3_passDay 4 = .ok (.getfield 24, 3) := by decide +kernel
theorem dX3_passDay_7 : decode cX3_passDay 7 = .ok (.if_icmp .ge 44, 3) := by decide +kernel
theorem dX3_passDay_10 : decode cX3_passDay 10 = .ok (.aload_n 0, 1) := by decide +kernel
theorem dX3_passDay_11 : decode cX3_passDay 11 = .ok (.getfield 40, 3) := by decide +kernel
theorem dX3_passDay_14 : decode cX3_passDay 14 = .ok (.iload_n 1, 1) := by decide +kernel
theorem dX3_passDay_15 : decode cX3_passDay 15 = .ok (.iaload, 1) := by decide +kernel
theorem dX3_passDay_16 : decode cX3_passDay 16 = .ok (.iconst (-1), 1) := by decide +kernel
theorem dX3_passDay_17 : decode cX3_passDay 17 = .ok (.if_icmp .eq 8, 3) := by decide +kernel
theorem dX3_passDay_20 : decode cX3_passDay 20 = .ok (.aload_n 0, 1) := by decide +kernel
theorem dX3_passDay_21 : decode cX3_passDay 21 = .ok (.iload_n 1, 1) := by decide +kernel
theorem dX3_passDay_22 : decode cX3_passDay 22 = .ok (.invokevirtual 99, 3) := by decide +kernel
theorem dX3_passDay_25 : decode cX3_passDay 25 = .ok (.aload_n 0, 1) := by decide +kernel
theorem dX3_passDay_26 : decode cX3_passDay 26 = .ok (.getfield 37, 3) := by decide +kernel
theorem dX3_passDay_29 : decode cX3_passDay 29 = .ok (.iload_n 1, 1) := by decide +kernel
theorem dX3_passDay_30 : decode cX3_passDay 30 = .ok (.sipush 999, 3) := by decide +kernel
theorem dX3_passDay_33 : decode cX3_passDay 33 = .ok (.aload_n 0, 1) := by decide +kernel
theorem dX3_passDay_34 : decode cX3_passDay 34 = .ok (.getfield 37, 3) := by decide +kernel
theorem dX3_passDay_37 : decode cX3_passDay 37 = .ok (.iload_n 1, 1) := by decide +kernel
theorem dX3_passDay_38 : decode cX3_passDay 38 = .ok (.iaload, 1) := by decide +kernel
theorem dX3_passDay_39 : decode cX3_passDay 39 = .ok (.iconst 1, 1) := by decide +kernel
theorem dX3_passDay_40 : decode cX3_passDay 40 = .ok (.iadd, 1) := by decide +kernel
theorem dX3_passDay_41 : decode cX3_passDay 41 = .ok (.invokestatic 87, 3) := by decide +kernel
theorem dX3_passDay_44 : decode cX3_passDay 44 = .ok (.iastore, 1) := by decide +kernel
theorem dX3_passDay_45 : decode cX3_passDay 45 = .ok (.iinc 1 1, 3) := by decide +kernel
theorem dX3_passDay_48 : decode cX3_passDay 48 = .ok (.goto (-46), 3) := by decide +kernel
theorem dX3_passDay_51 : decode cX3_passDay 51 = .ok (.iconst 0, 1) := by decide +kernel
theorem dX3_passDay_52 : decode cX3_passDay 52 = .ok (.istore_n 1, 1) := by decide +kernel
theorem dX3_passDay_53 : decode cX3_passDay 53 = .ok (.iload_n 1, 1) := by decide +kernel
theorem dX3_passDay_54 : decode cX3_passDay 54 = .ok (.bipush 8, 2) := by decide +kernel
theorem dX3_passDay_56 : decode cX3_passDay 56 = .ok (.if_icmp .ge 24, 3) := by decide +kernel
theorem dX3_passDay_59 : decode cX3_passDay 59 = .ok (.aload_n 0, 1) := by decide +kernel
theorem dX3_passDay_60 : decode cX3_passDay 60 = .ok (.getfield 21, 3) := by decide +kernel
theorem dX3_passDay_63 : decode cX3_passDay 63 = .ok (.iload_n 1, 1) := by decide +kernel
theorem dX3_passDay_64 : decode cX3_passDay 64 = .ok (.iaload, 1) := by decide +kernel
theorem dX3_passDay_65 : decode cX3_passDay 65 = .ok (.iconst 2, 1) := by decide +kernel
theorem dX3_passDay_66 : decode cX3_passDay 66 = .ok (.if_icmp .lt 8, 3) := by decide +kernel
theorem dX3_passDay_69 : decode cX3_passDay 69 = .ok (.aload_n 0, 1) := by decide +kernel
theorem dX3_passDay_70 : decode cX3_passDay 70 = .ok (.iload_n 1, 1) := by decide +kernel
theorem dX3_passDay_71 : decode cX3_passDay 71 = .ok (.invokevirtual 103, 3) := by decide +kernel
theorem dX3_passDay_74 : decode cX3_passDay 74 = .ok (.iinc 1 1, 3) := by decide +kernel
theorem dX3_passDay_77 : decode cX3_passDay 77 = .ok (.goto (-24), 3) := by decide +kernel
theorem dX3_passDay_80 : decode cX3_passDay 80 = .ok (.iconst 0, 1) := by decide +kernel
theorem dX3_passDay_81 : decode cX3_passDay 81 = .ok (.istore_n 1, 1) := by decide +kernel
theorem dX3_passDay_82 : decode cX3_passDay 82 = .ok (.iload_n 1, 1) := by decide +kernel
theorem dX3_passDay_83 : decode cX3_passDay 83 = .ok (.aload_n 0, 1) := by decide +kernel
theorem dX3_passDay_84 : decode cX3_passDay 84 = .ok (.getfield 24, 3) := by decide +kernel
theorem dX3_passDay_87 : decode cX3_passDay 87 = .ok (.if_icmp .ge 29, 3) := by decide +kernel
theorem dX3_passDay_90 : decode cX3_passDay 90 = .ok (.aload_n 0, 1) := by decide +kernel
theorem dX3_passDay_91 : decode cX3_passDay 91 = .ok (.getfield 40, 3) := by decide +kernel
theorem dX3_passDay_94 : decode cX3_passDay 94 = .ok (.iload_n 1, 1) := by decide +kernel
theorem dX3_passDay_95 : decode cX3_passDay 95 = .ok (.iaload, 1) := by decide +kernel
theorem dX3_passDay_96 : decode cX3_passDay 96 = .ok (.iconst (-1), 1) := by decide +kernel
theorem dX3_passDay_97 : decode cX3_passDay 97 = .ok (.if_icmp .ne 13, 3) := by decide +kernel
theorem dX3_passDay_100 : decode cX3_passDay 100 = .ok (.aload_n 0, 1) := by decide +kernel
theorem dX3_passDay_101 : decode cX3_passDay 101 = .ok (.iload_n 1, 1) := by decide +kernel
theorem dX3_passDay_102 : decode cX3_passDay 102 = .ok (.aload_n 0, 1) := by decide +kernel
theorem dX3_passDay_103 : decode cX3_passDay 103 = .ok (.iload_n 1, 1) := by decide +kernel
theorem dX3_passDay_104 : decode cX3_passDay 104 = .ok (.invokevirtual 106, 3) := by decide +kernel
theorem dX3_passDay_107 : decode cX3_passDay 107 = .ok (.invokevirtual 92, 3) := by decide +kernel
theorem dX3_passDay_110 : decode cX3_passDay 110 = .ok (.iinc 1 1, 3) := by decide +kernel
theorem dX3_passDay_113 : decode cX3_passDay 113 = .ok (.goto (-31), 3) := by decide +kernel
theorem dX3_passDay_116 : decode cX3_passDay 116 = .ok (.aload_n 0, 1) := by decide +kernel
theorem dX3_passDay_117 : decode cX3_passDay 117 = .ok (.dup, 1) := by decide +kernel
theorem dX3_passDay_118 : decode cX3_passDay 118 = .ok (.getfield 43, 3) := by decide +kernel
theorem dX3_passDay_121 : decode cX3_passDay 121 = .ok (.iconst 1, 1) := by decide +kernel
theorem dX3_passDay_122 : decode cX3_passDay 122 = .ok (.iadd, 1) := by decide +kernel
theorem dX3_passDay_123 : decode cX3_passDay 123 = .ok (.putfield 43, 3) := by decide +kernel
theorem dX3_passDay_126 : decode cX3_passDay 126 = .ok (.return_, 1) := by decide +kernel
theorem dX3_feedOne_0 : decode cX3_feedOne 0 = .ok (.aload_n 0, 1) := by decide +kernel
theorem dX3_feedOne_1 : decode cX3_feedOne 1 = .ok (.getfield 40, 3) := by decide +kernel
theorem dX3_feedOne_4 : decode cX3_feedOne 4 = .ok (.iload_n 1, 1) := by decide +kernel
theorem dX3_feedOne_5 : decode cX3_feedOne 5 = .ok (.iaload, 1) := by decide +kernel
theorem dX3_feedOne_6 : decode cX3_feedOne 6 = .ok (.istore_n 2, 1) := by decide +kernel
theorem dX3_feedOne_7 : decode cX3_feedOne 7 = .ok (.aload_n 0, 1) := by decide +kernel
theorem dX3_feedOne_8 : decode cX3_feedOne 8 = .ok (.iload_n 1, 1) := by decide +kernel
theorem dX3_feedOne_9 : decode cX3_feedOne 9 = .ok (.invokevirtual 109, 3) := by decide +kernel
theorem dX3_feedOne_12 : decode cX3_feedOne 12 = .ok (.istore_n 3, 1) := by decide +kernel
theorem dX3_feedOne_13 : decode cX3_feedOne 13 = .ok (.aload_n 0, 1) := by decide +kernel
theorem dX3_feedOne_14 : decode cX3_feedOne 14 = .ok (.getfield 15, 3) := by decide +kernel
theorem dX3_feedOne_17 : decode cX3_feedOne 17 = .ok (.iload_n 2, 1) := by decide +kernel
theorem dX3_feedOne_18 : decode cX3_feedOne 18 = .ok (.iaload, 1) := by decide +kernel
theorem dX3_feedOne_19 : decode cX3_feedOne 19 = .ok (.iload_n 3, 1) := by decide +kernel
theorem dX3_feedOne_20 : decode cX3_feedOne 20 = .ok (.if_icmp .ge 17, 3) := by decide +kernel
theorem dX3_feedOne_23 : decode cX3_feedOne 23 = .ok (.aload_n 0, 1) := by decide +kernel
theorem dX3_feedOne_24 : decode cX3_feedOne 24 = .ok (.getfield 15, 3) := by decide +kernel
theorem dX3_feedOne_27 : decode cX3_feedOne 27 = .ok (.iload_n 2, 1) := by decide +kernel
theorem dX3_feedOne_28 : decode cX3_feedOne 28 = .ok (.iconst 0, 1) := by decide +kernel
theorem dX3_feedOne_29 : decode cX3_feedOne 29 = .ok (.iastore, 1) := by decide +kernel
theorem dX3_feedOne_30 : decode cX3_feedOne 30 = .ok (.aload_n 0, 1) := by decide +kernel
theorem dX3_feedOne_31 : decode cX3_feedOne 31 = .ok (.iload_n 1, 1) := by decide +kernel
theorem dX3_feedOne_32 : decode cX3_feedOne 32 = .ok (.iconst (-1), 1) := by decide +kernel
theorem dX3_feedOne_33 : decode cX3_feedOne 33 = .ok (.invokevirtual 92, 3) := by decide +kernel
theorem dX3_feedOne_36 : decode cX3_feedOne 36 = .ok (.return_, 1) := by decide +kernel
theorem dX3_feedOne_37 : decode cX3_feedOne 37 = .ok (.aload_n 0, 1) := by decide +kernel
theorem dX3_feedOne_38 : decode cX3_feedOne 38 = .ok (.getfield 15, 3) := by decide +kernel
theorem dX3_feedOne_41 : decode cX3_feedOne 41 = .ok (.iload_n 2, 1) := by decide +kernel
theorem dX3_feedOne_42 : decode cX3_feedOne 42 = .ok (.dup2, 1) := by decide +kernel
theorem dX3_feedOne_43 : decode cX3_feedOne 43 = .ok (.iaload, 1) := by decide +kernel
theorem dX3_feedOne_44 : decode cX3_feedOne 44 = .ok (.iload_n 3, 1) := by decide +kernel
theorem dX3_feedOne_45 : decode cX3_feedOne 45 = .ok (.isub, 1) := by decide +kernel
theorem dX3_feedOne_46 : decode cX3_feedOne 46 = .ok (.iastore, 1) := by decide +kernel
theorem dX3_feedOne_47 : decode cX3_feedOne 47 = .ok (.aload_n 0, 1) := by decide +kernel
theorem dX3_feedOne_48 : decode cX3_feedOne 48 = .ok (.getfield 34, 3) := by decide +kernel
theorem dX3_feedOne_51 : decode cX3_feedOne 51 = .ok (.iload_n 1, 1) := by decide +kernel
theorem dX3_feedOne_52 : decode cX3_feedOne 52 = .ok (.bipush 99, 2) := by decide +kernel
theorem dX3_feedOne_54 : decode cX3_feedOne 54 = .ok (.aload_n 0, 1) := by decide +kernel
theorem dX3_feedOne_55 : decode cX3_feedOne 55 = .ok (.getfield 34, 3) := by decide +kernel
theorem dX3_feedOne_58 : decode cX3_feedOne 58 = .ok (.iload_n 1, 1) := by decide +kernel
theorem dX3_feedOne_59 : decode cX3_feedOne 59 = .ok (.iaload, 1) := by decide +kernel
theorem dX3_feedOne_60 : decode cX3_feedOne 60 = .ok (.aload_n 0, 1) := by decide +kernel
theorem dX3_feedOne_61 : decode cX3_feedOne 61 = .ok (.iload_n 1, 1) := by decide +kernel
theorem dX3_feedOne_62 : decode cX3_feedOne 62 = .ok (.invokevirtual 112, 3) := by decide +kernel
theorem dX3_feedOne_65 : decode cX3_feedOne 65 = .ok (.iadd, 1) := by decide +kernel
theorem dX3_feedOne_66 : decode cX3_feedOne 66 = .ok (.invokestatic 87, 3) := by decide +kernel
theorem dX3_feedOne_69 : decode cX3_feedOne 69 = .ok (.iastore, 1) := by decide +kernel
theorem dX3_feedOne_70 : decode cX3_feedOne 70 = .ok (.return_, 1) := by decide +kernel
theorem dX3_makeThird_0 : decode cX3_makeThird 0 = .ok (.aload_n 0, 1) := by decide +kernel
theorem dX3_makeThird_1 : decode cX3_makeThird 1 = .ok (.iload_n 1, 1) := by decide +kernel
theorem dX3_makeThird_2 : decode cX3_makeThird 2 = .ok (.invokevirtual 115, 3) := by decide +kernel
theorem dX3_makeThird_5 : decode cX3_makeThird 5 = .ok (.istore_n 2, 1) := by decide +kernel
theorem dX3_makeThird_6 : decode cX3_makeThird 6 = .ok (.iload_n 2, 1) := by decide +kernel
theorem dX3_makeThird_7 : decode cX3_makeThird 7 = .ok (.ifCond .lt 18, 3) := by decide +kernel
theorem dX3_makeThird_10 : decode cX3_makeThird 10 = .ok (.aload_n 0, 1) := by decide +kernel
theorem dX3_makeThird_11 : decode cX3_makeThird 11 = .ok (.invokevirtual 55, 3) := by decide +kernel
theorem dX3_makeThird_14 : decode cX3_makeThird 14 = .ok (.ifCond .ne 11, 3) := by decide +kernel
theorem dX3_makeThird_17 : decode cX3_makeThird 17 = .ok (.aload_n 0, 1) := by decide +kernel
theorem dX3_makeThird_18 : decode cX3_makeThird 18 = .ok (.iload_n 2, 1) := by decide +kernel
theorem dX3_makeThird_19 : decode cX3_makeThird 19 = .ok (.invokevirtual 118, 3) := by decide +kernel
theorem dX3_makeThird_22 : decode cX3_makeThird 22 = .ok (.ifCond .eq 4, 3) := by decide +kernel
theorem dX3_makeThird_25 : decode cX3_makeThird 25 = .ok (.return_, 1) := by decide +kernel
theorem dX3_makeThird_26 : decode cX3_makeThird 26 = .ok (.iconst 0, 1) := by decide +kernel
theorem dX3_makeThird_27 : decode cX3_makeThird 27 = .ok (.istore_n 3, 1) := by decide +kernel
theorem dX3_makeThird_28 : decode cX3_makeThird 28 = .ok (.iconst 0, 1) := by decide +kernel
theorem dX3_makeThird_29 : decode cX3_makeThird 29 = .ok (.istore 4, 2) := by decide +kernel
theorem dX3_makeThird_31 : decode cX3_makeThird 31 = .ok (.iconst 0, 1) := by decide +kernel
theorem dX3_makeThird_32 : decode cX3_makeThird 32 = .ok (.istore 5, 2) := by decide +kernel
theorem dX3_makeThird_34 : decode cX3_makeThird 34 = .ok (.iload 5, 2) := by decide +kernel
theorem dX3_makeThird_36 : decode cX3_makeThird 36 = .ok (.aload_n 0, 1) := by decide +kernel
theorem dX3_makeThird_37 : decode cX3_makeThird 37 = .ok (.getfield 24, 3) := by decide +kernel
theorem dX3_makeThird_40 : decode cX3_makeThird 40 = .ok (.if_icmp .ge 50, 3) := by decide +kernel
theorem dX3_makeThird_43 : decode cX3_makeThird 43 = .ok (.iload 4, 2) := by decide +kernel
theorem dX3_makeThird_45 : decode cX3_makeThird 45 = .ok (.iconst 2, 1) := by decide +kernel
theorem dX3_makeThird_46 : decode cX3_makeThird 46 = .ok (.if_icmp .ge 44, 3) := by decide +kernel
theorem dX3_makeThird_49 : decode cX3_makeThird 49 = .ok (.aload_n 0, 1) := by decide +kernel
theorem dX3_makeThird_50 : decode cX3_makeThird 50 = .ok (.getfield 40, 3) := by decide +kernel
theorem dX3_makeThird_53 : decode cX3_makeThird 53 = .ok (.iload 5, 2) := by decide +kernel
theorem dX3_makeThird_55 : decode cX3_makeThird 55 = .ok (.iaload, 1) := by decide +kernel
theorem dX3_makeThird_56 : decode cX3_makeThird 56 = .ok (.iload_n 1, 1) := by decide +kernel
theorem dX3_makeThird_57 : decode cX3_makeThird 57 = .ok (.if_icmp .ne 27, 3) := by decide +kernel
theorem dX3_makeThird_60 : decode cX3_makeThird 60 = .ok (.aload_n 0, 1) := by decide +kernel
theorem dX3_makeThird_61 : decode cX3_makeThird 61 = .ok (.getfield 31, 3) := by decide +kernel
theorem dX3_makeThird_64 : decode cX3_makeThird 64 = .ok (.iload 5, 2) := by decide +kernel
theorem dX3_makeThird_66 : decode cX3_makeThird 66 = .ok (.iaload, 1) := by decide +kernel
theorem dX3_makeThird_67 : decode cX3_makeThird 67 = .ok (.iload_n 2, 1) := by decide +kernel
theorem dX3_makeThird_68 : decode cX3_makeThird 68 = .ok (.if_icmp .ne 16, 3) := by decide +kernel
theorem dX3_makeThird_71 : decode cX3_makeThird 71 = .ok (.iload_n 3, 1) := by decide +kernel
theorem dX3_makeThird_72 : decode cX3_makeThird 72 = .ok (.aload_n 0, 1) := by decide +kernel
theorem dX3_makeThird_73 : decode cX3_makeThird 73 = .ok (.getfield 34, 3) := by decide +kernel
theorem dX3_makeThird_76 : decode cX3_makeThird 76 = .ok (.iload 5, 2) := by decide +kernel
theorem dX3_makeThird_78 : decode cX3_makeThird 78 = .ok (.iaload, 1) := by decide +kernel
theorem dX3_makeThird_79 : decode cX3_makeThird 79 = .ok (.iadd, 1) := by decide +kernel
theorem dX3_makeThird_80 : decode cX3_makeThird 80 = .ok (.istore_n 3, 1) := by decide +kernel
theorem dX3_makeThird_81 : decode cX3_makeThird 81 = .ok (.iinc 4 1, 3) := by decide +kernel
theorem dX3_makeThird_84 : decode cX3_makeThird 84 = .ok (.iinc 5 1, 3) := by decide +kernel
theorem dX3_makeThird_87 : decode cX3_makeThird 87 = .ok (.goto (-53), 3) := by decide +kernel
theorem dX3_makeThird_90 : decode cX3_makeThird 90 = .ok (.aload_n 0, 1) := by decide +kernel
theorem dX3_makeThird_91 : decode cX3_makeThird 91 = .ok (.iconst 0, 1) := by decide +kernel
theorem dX3_makeThird_92 : decode cX3_makeThird 92 = .ok (.iload_n 2, 1) := by decide +kernel
theorem dX3_makeThird_93 : decode cX3_makeThird 93 = .ok (.iload_n 3, 1) := by decide +kernel
theorem dX3_makeThird_94 : decode cX3_makeThird 94 = .ok (.iconst 2, 1) := by decide +kernel
theorem dX3_makeThird_95 : decode cX3_makeThird 95 = .ok (.idiv, 1) := by decide +kernel
theorem dX3_makeThird_96 : decode cX3_makeThird 96 = .ok (.invokevirtual 121, 3) := by decide +kernel
theorem dX3_makeThird_99 : decode cX3_makeThird 99 = .ok (.pop, 1) := by decide +kernel
theorem dX3_makeThird_100 : decode cX3_makeThird 100 = .ok (.return_, 1) := by decide +kernel
theorem dX3_pairedEvent_0 : decode cX3_pairedEvent 0 = .ok (.iconst 0, 1) := by decide +kernel
theorem dX3_pairedEvent_1 : decode cX3_pairedEvent 1 = .ok (.istore_n 2, 1) := by decide +kernel
theorem dX3_pairedEvent_2 : decode cX3_pairedEvent 2 = .ok (.iconst 0, 1) := by decide +kernel
theorem dX3_pairedEvent_3 : decode cX3_pairedEvent 3 = .ok (.istore_n 3, 1) := by decide +kernel
theorem dX3_pairedEvent_4 : decode cX3_pairedEvent 4 = .ok (.iconst 0, 1) := by decide +kernel
theorem dX3_pairedEvent_5 : decode cX3_pairedEvent 5 = .ok (.istore 4, 2) := by decide +kernel
theorem dX3_pairedEvent_7 : decode cX3_pairedEvent 7 = .ok (.iload 4, 2) := by decide +kernel
theorem dX3_pairedEvent_9 : decode cX3_pairedEvent 9 = .ok (.aload_n 0, 1) := by decide +kernel
theorem dX3_pairedEvent_10 : decode cX3_pairedEvent 10 = .ok (.getfield 24, 3) := by decide +kernel
theorem dX3_pairedEvent_13 : decode cX3_pairedEvent 13 = .ok (.if_icmp .ge 43, 3) := by decide +kernel
theorem dX3_pairedEvent_16 : decode cX3_pairedEvent 16 = .ok (.aload_n 0, 1) := by decide +kernel
theorem dX3_pairedEvent_17 : decode cX3_pairedEvent 17 = .ok (.getfield 40, 3) := by decide +kernel
theorem dX3_pairedEvent_20 : decode cX3_pairedEvent 20 = .ok (.iload 4, 2) := by decide +kernel
theorem dX3_pairedEvent_22 : decode cX3_pairedEvent 22 = .ok (.iaload, 1) := by decide +kernel
theorem dX3_pairedEvent_23 : decode cX3_pairedEvent 23 = .ok (.iload_n 1, 1) := by decide +kernel
theorem dX3_pairedEvent_24 : decode cX3_pairedEvent 24 = .ok (.if_icmp .ne 26, 3) := by decide +kernel
theorem dX3_pairedEvent_27 : decode cX3_pairedEvent 27 = .ok (.iconst 1, 1) := by decide +kernel
theorem dX3_pairedEvent_28 : decode cX3_pairedEvent 28 = .ok (.aload_n 0, 1) := by decide +kernel
theorem dX3_pairedEvent_29 : decode cX3_pairedEvent 29 = .ok (.getfield 31, 3) := by decide +kernel
theorem dX3_pairedEvent_32 : decode cX3_pairedEvent 32 = .ok (.iload 4, 2) := by decide +kernel
theorem dX3_pairedEvent_34 : decode cX3_pairedEvent 34 = .ok (.iaload, 1) := by decide +kernel
theorem dX3_pairedEvent_35 : decode cX3_pairedEvent 35 = .ok (.ishl, 1) := by decide +kernel
theorem dX3_pairedEvent_36 : decode cX3_pairedEvent 36 = .ok (.istore 5, 2) := by decide +kernel
theorem dX3_pairedEvent_38 : decode cX3_pairedEvent 38 = .ok (.iload_n 3, 1) := by decide +kernel
theorem dX3_pairedEvent_39 : decode cX3_pairedEvent 39 = .ok (.iload_n 2, 1) := by decide +kernel
theorem dX3_pairedEvent_40 : decode cX3_pairedEvent 40 = .ok (.iload 5, 2) := by decide +kernel
theorem dX3_pairedEvent_42 : decode cX3_pairedEvent 42 = .ok (.iand, 1) := by decide +kernel
theorem dX3_pairedEvent_43 : decode cX3_pairedEvent 43 = .ok (.ior, 1) := by decide +kernel
theorem dX3_pairedEvent_44 : decode cX3_pairedEvent 44 = .ok (.istore_n 3, 1) := by decide +kernel
theorem dX3_pairedEvent_45 : decode cX3_pairedEvent 45 = .ok (.iload_n 2, 1) := by decide +kernel
theorem dX3_pairedEvent_46 : decode cX3_pairedEvent 46 = .ok (.iload 5, 2) := by decide +kernel
theorem dX3_pairedEvent_48 : decode cX3_pairedEvent 48 = .ok (.ior, 1) := by decide +kernel
theorem dX3_pairedEvent_49 : decode cX3_pairedEvent 49 = .ok (.istore_n 2, 1) := by decide +kernel
theorem dX3_pairedEvent_50 : decode cX3_pairedEvent 50 = .ok (.iinc 4 1, 3) := by decide +kernel
theorem dX3_pairedEvent_53 : decode cX3_pairedEvent 53 = .ok (.goto (-46), 3) := by decide +kernel
theorem dX3_pairedEvent_56 : decode cX3_pairedEvent 56 = .ok (.iconst 0, 1) := by decide +kernel
theorem dX3_pairedEvent_57 : decode cX3_pairedEvent 57 = .ok (.istore 4, 2) := by decide +kernel
theorem dX3_pairedEvent_59 : decode cX3_pairedEvent 59 = .ok (.iload 4, 2) := by decide +kernel
theorem dX3_pairedEvent_61 : decode cX3_pairedEvent 61 = .ok (.bipush 16, 2) := by decide +kernel
theorem dX3_pairedEvent_63 : decode cX3_pairedEvent 63 = .ok (.if_icmp .ge 21, 3) := by decide +kernel
theorem dX3_pairedEvent_66 : decode cX3_pairedEvent 66 = .ok (.iload_n 3, 1) := by decide +kernel
theorem dX3_pairedEvent_67 : decode cX3_pairedEvent 67 = .ok (.iconst 1, 1) := by decide +kernel
theorem dX3_pairedEvent_68 : decode cX3_pairedEvent 68 = .ok (.iload 4, 2) := by decide +kernel
theorem dX3_pairedEvent_70 : decode cX3_pairedEvent 70 = .ok (.ishl, 1) := by decide +kernel
theorem dX3_pairedEvent_71 : decode cX3_pairedEvent 71 = .ok (.iand, 1) := by decide +kernel
theorem dX3_pairedEvent_72 : decode cX3_pairedEvent 72 = .ok (.ifCond .eq 6, 3) := by decide +kernel
theorem dX3_pairedEvent_75 : decode cX3_pairedEvent 75 = .ok (.iload 4, 2) := by decide +kernel
theorem dX3_pairedEvent_77 : decode cX3_pairedEvent 77 = .ok (.ireturn, 1) := by decide +kernel
theorem dX3_pairedEvent_78 : decode cX3_pairedEvent 78 = .ok (.iinc 4 1, 3) := by decide +kernel
theorem dX3_pairedEvent_81 : decode cX3_pairedEvent 81 = .ok (.goto (-22), 3) := by decide +kernel
theorem dX3_pairedEvent_84 : decode cX3_pairedEvent 84 = .ok (.iconst (-1), 1) := by decide +kernel
theorem dX3_pairedEvent_85 : decode cX3_pairedEvent 85 = .ok (.ireturn, 1) := by decide +kernel
theorem dX3_isOnRoad_0 : decode cX3_isOnRoad 0 = .ok (.iconst 0, 1) := by decide +kernel
theorem dX3_isOnRoad_1 : decode cX3_isOnRoad 1 = .ok (.istore_n 2, 1) := by decide +kernel
theorem dX3_isOnRoad_2 : decode cX3_isOnRoad 2 = .ok (.iload_n 2, 1) := by decide +kernel
theorem dX3_isOnRoad_3 : decode cX3_isOnRoad 3 = .ok (.aload_n 0, 1) := by decide +kernel
theorem dX3_isOnRoad_4 : decode cX3_isOnRoad 4 = .ok (.getfield 24, 3) := by decide +kernel
theorem dX3_isOnRoad_7 : decode cX3_isOnRoad 7 = .ok (.if_icmp .ge 31, 3) := by decide +kernel
theorem dX3_isOnRoad_10 : decode cX3_isOnRoad 10 = .ok (.aload_n 0, 1) := by decide +kernel
theorem dX3_isOnRoad_11 : decode cX3_isOnRoad 11 = .ok (.getfield 40, 3) := by decide +kernel
theorem dX3_isOnRoad_14 : decode cX3_isOnRoad 14 = .ok (.iload_n 2, 1) := by decide +kernel
theorem dX3_isOnRoad_15 : decode cX3_isOnRoad 15 = .ok (.iaload, 1) := by decide +kernel
theorem dX3_isOnRoad_16 : decode cX3_isOnRoad 16 = .ok (.iconst (-1), 1) := by decide +kernel
theorem dX3_isOnRoad_17 : decode cX3_isOnRoad 17 = .ok (.if_icmp .ne 15, 3) := by decide +kernel
theorem dX3_isOnRoad_20 : decode cX3_isOnRoad 20 = .ok (.aload_n 0, 1) := by decide +kernel
theorem dX3_isOnRoad_21 : decode cX3_isOnRoad 21 = .ok (.getfield 31, 3) := by decide +kernel
theorem dX3_isOnRoad_24 : decode cX3_isOnRoad 24 = .ok (.iload_n 2, 1) := by decide +kernel
theorem dX3_isOnRoad_25 : decode cX3_isOnRoad 25 = .ok (.iaload, 1) := by decide +kernel
theorem dX3_isOnRoad_26 : decode cX3_isOnRoad 26 = .ok (.iload_n 1, 1) := by decide +kernel
theorem dX3_isOnRoad_27 : decode cX3_isOnRoad 27 = .ok (.if_icmp .ne 5, 3) := by decide +kernel
theorem dX3_isOnRoad_30 : decode cX3_isOnRoad 30 = .ok (.iconst 1, 1) := by decide +kernel
theorem dX3_isOnRoad_31 : decode cX3_isOnRoad 31 = .ok (.ireturn, 1) := by decide +kernel
theorem dX3_isOnRoad_32 : decode cX3_isOnRoad 32 = .ok (.iinc 2 1, 3) := by decide +kernel
theorem dX3_isOnRoad_35 : decode cX3_isOnRoad 35 = .ok (.goto (-33), 3) := by decide +kernel
theorem dX3_isOnRoad_38 : decode cX3_isOnRoad 38 = .ok (.iconst 0, 1) := by decide +kernel
theorem dX3_isOnRoad_39 : decode cX3_isOnRoad 39 = .ok (.ireturn, 1) := by decide +kernel
theorem dX3_thoseIn_0 : decode cX3_thoseIn 0 = .ok (.iconst 0, 1) := by decide +kernel
theorem dX3_thoseIn_1 : decode cX3_thoseIn 1 = .ok (.istore_n 2, 1) := by decide +kernel
theorem dX3_thoseIn_2 : decode cX3_thoseIn 2 = .ok (.iconst 0, 1) := by decide +kernel
theorem dX3_thoseIn_3 : decode cX3_thoseIn 3 = .ok (.istore_n 3, 1) := by decide +kernel
theorem dX3_thoseIn_4 : decode cX3_thoseIn 4 = .ok (.iload_n 3, 1) := by decide +kernel
theorem dX3_thoseIn_5 : decode cX3_thoseIn 5 = .ok (.aload_n 0, 1) := by decide +kernel
theorem dX3_thoseIn_6 : decode cX3_thoseIn 6 = .ok (.getfield 24, 3) := by decide +kernel
theorem dX3_thoseIn_9 : decode cX3_thoseIn 9 = .ok (.if_icmp .ge 25, 3) := by decide +kernel
theorem dX3_thoseIn_12 : decode cX3_thoseIn 12 = .ok (.aload_n 0, 1) := by decide +kernel
theorem dX3_thoseIn_13 : decode cX3_thoseIn 13 = .ok (.getfield 40, 3) := by decide +kernel
theorem dX3_thoseIn_16 : decode cX3_thoseIn 16 = .ok (.iload_n 3, 1) := by decide +kernel
theorem dX3_thoseIn_17 : decode cX3_thoseIn 17 = .ok (.iaload, 1) := by decide +kernel
theorem dX3_thoseIn_18 : decode cX3_thoseIn 18 = .ok (.iload_n 1, 1) := by decide +kernel
theorem dX3_thoseIn_19 : decode cX3_thoseIn 19 = .ok (.if_icmp .ne 9, 3) := by decide +kernel
theorem dX3_thoseIn_22 : decode cX3_thoseIn 22 = .ok (.iload_n 2, 1) := by decide +kernel
theorem dX3_thoseIn_23 : decode cX3_thoseIn 23 = .ok (.iconst 1, 1) := by decide +kernel
theorem dX3_thoseIn_24 : decode cX3_thoseIn 24 = .ok (.iload_n 3, 1) := by decide +kernel
theorem dX3_thoseIn_25 : decode cX3_thoseIn 25 = .ok (.ishl, 1) := by decide +kernel
theorem dX3_thoseIn_26 : decode cX3_thoseIn 26 = .ok (.ior, 1) := by decide +kernel
theorem dX3_thoseIn_27 : decode cX3_thoseIn 27 = .ok (.istore_n 2, 1) := by decide +kernel
theorem dX3_thoseIn_28 : decode cX3_thoseIn 28 = .ok (.iinc 3 1, 3) := by decide +kernel
theorem dX3_thoseIn_31 : decode cX3_thoseIn 31 = .ok (.goto (-27), 3) := by decide +kernel
theorem dX3_thoseIn_34 : decode cX3_thoseIn 34 = .ok (.iload_n 2, 1) := by decide +kernel
theorem dX3_thoseIn_35 : decode cX3_thoseIn 35 = .ok (.ireturn, 1) := by decide +kernel
theorem dX3_eventsIn_0 : decode cX3_eventsIn 0 = .ok (.iconst 0, 1) := by decide +kernel
theorem dX3_eventsIn_1 : decode cX3_eventsIn 1 = .ok (.istore_n 2, 1) := by decide +kernel
theorem dX3_eventsIn_2 : decode cX3_eventsIn 2 = .ok (.iconst 0, 1) := by decide +kernel
theorem dX3_eventsIn_3 : decode cX3_eventsIn 3 = .ok (.istore_n 3, 1) := by decide +kernel
theorem dX3_eventsIn_4 : decode cX3_eventsIn 4 = .ok (.iload_n 3, 1) := by decide +kernel
theorem dX3_eventsIn_5 : decode cX3_eventsIn 5 = .ok (.aload_n 0, 1) := by decide +kernel
theorem dX3_eventsIn_6 : decode cX3_eventsIn 6 = .ok (.getfield 24, 3) := by decide +kernel
theorem dX3_eventsIn_9 : decode cX3_eventsIn 9 = .ok (.if_icmp .ge 30, 3) := by decide +kernel
theorem dX3_eventsIn_12 : decode cX3_eventsIn 12 = .ok (.aload_n 0, 1) := by decide +kernel
theorem dX3_eventsIn_13 : decode cX3_eventsIn 13 = .ok (.getfield 40, 3) := by decide +kernel
theorem dX3_eventsIn_16 : decode cX3_eventsIn 16 = .ok (.iload_n 3, 1) := by decide +kernel
theorem dX3_eventsIn_17 : decode cX3_eventsIn 17 = .ok (.iaload, 1) := by decide +kernel
theorem dX3_eventsIn_18 : decode cX3_eventsIn 18 = .ok (.iload_n 1, 1) := by decide +kernel
theorem dX3_eventsIn_19 : decode cX3_eventsIn 19 = .ok (.if_icmp .ne 14, 3) := by decide +kernel
theorem dX3_eventsIn_22 : decode cX3_eventsIn 22 = .ok (.iload_n 2, 1) := by decide +kernel
theorem dX3_eventsIn_23 : decode cX3_eventsIn 23 = .ok (.iconst 1, 1) := by decide +kernel
theorem dX3_eventsIn_24 : decode cX3_eventsIn 24 = .ok (.aload_n 0, 1) := by decide +kernel
theorem dX3_eventsIn_25 : decode cX3_eventsIn 25 = .ok (.getfield 31, 3) := by decide +kernel
theorem dX3_eventsIn_28 : decode cX3_eventsIn 28 = .ok (.iload_n 3, 1) := by decide +kernel
theorem dX3_eventsIn_29 : decode cX3_eventsIn 29 = .ok (.iaload, 1) := by decide +kernel
theorem dX3_eventsIn_30 : decode cX3_eventsIn 30 = .ok (.ishl, 1) := by decide +kernel
theorem dX3_eventsIn_31 : decode cX3_eventsIn 31 = .ok (.ior, 1) := by decide +kernel
theorem dX3_eventsIn_32 : decode cX3_eventsIn 32 = .ok (.istore_n 2, 1) := by decide +kernel
theorem dX3_eventsIn_33 : decode cX3_eventsIn 33 = .ok (.iinc 3 1, 3) := by decide +kernel
theorem dX3_eventsIn_36 : decode cX3_eventsIn 36 = .ok (.goto (-32), 3) := by decide +kernel
theorem dX3_eventsIn_39 : decode cX3_eventsIn 39 = .ok (.iload_n 2, 1) := by decide +kernel
theorem dX3_eventsIn_40 : decode cX3_eventsIn 40 = .ok (.ireturn, 1) := by decide +kernel
theorem dX3_eatenIn_0 : decode cX3_eatenIn 0 = .ok (.iconst 0, 1) := by decide +kernel
theorem dX3_eatenIn_1 : decode cX3_eatenIn 1 = .ok (.istore_n 2, 1) := by decide +kernel
theorem dX3_eatenIn_2 : decode cX3_eatenIn 2 = .ok (.iconst 0, 1) := by decide +kernel
theorem dX3_eatenIn_3 : decode cX3_eatenIn 3 = .ok (.istore_n 3, 1) := by decide +kernel
theorem dX3_eatenIn_4 : decode cX3_eatenIn 4 = .ok (.iload_n 3, 1) := by decide +kernel
theorem dX3_eatenIn_5 : decode cX3_eatenIn 5 = .ok (.aload_n 0, 1) := by decide +kernel
theorem dX3_eatenIn_6 : decode cX3_eatenIn 6 = .ok (.getfield 24, 3) := by decide +kernel
theorem dX3_eatenIn_9 : decode cX3_eatenIn 9 = .ok (.if_icmp .ge 27, 3) := by decide +kernel
theorem dX3_eatenIn_12 : decode cX3_eatenIn 12 = .ok (.aload_n 0, 1) := by decide +kernel
theorem dX3_eatenIn_13 : decode cX3_eatenIn 13 = .ok (.getfield 40, 3) := by decide +kernel
theorem dX3_eatenIn_16 : decode cX3_eatenIn 16 = .ok (.iload_n 3, 1) := by decide +kernel
theorem dX3_eatenIn_17 : decode cX3_eatenIn 17 = .ok (.iaload, 1) := by decide +kernel
theorem dX3_eatenIn_18 : decode cX3_eatenIn 18 = .ok (.iload_n 1, 1) := by decide +kernel
theorem dX3_eatenIn_19 : decode cX3_eatenIn 19 = .ok (.if_icmp .ne 11, 3) := by decide +kernel
theorem dX3_eatenIn_22 : decode cX3_eatenIn 22 = .ok (.iload_n 2, 1) := by decide +kernel
theorem dX3_eatenIn_23 : decode cX3_eatenIn 23 = .ok (.aload_n 0, 1) := by decide +kernel
theorem dX3_eatenIn_24 : decode cX3_eatenIn 24 = .ok (.iload_n 3, 1) := by decide +kernel
theorem dX3_eatenIn_25 : decode cX3_eatenIn 25 = .ok (.invokevirtual 109, 3) := by decide +kernel
theorem dX3_eatenIn_28 : decode cX3_eatenIn 28 = .ok (.iadd, 1) := by decide +kernel
theorem dX3_eatenIn_29 : decode cX3_eatenIn 29 = .ok (.istore_n 2, 1) := by decide +kernel
theorem dX3_eatenIn_30 : decode cX3_eatenIn 30 = .ok (.iinc 3 1, 3) := by decide +kernel
theorem dX3_eatenIn_33 : decode cX3_eatenIn 33 = .ok (.goto (-29), 3) := by decide +kernel
theorem dX3_eatenIn_36 : decode cX3_eatenIn 36 = .ok (.iload_n 2, 1) := by decide +kernel
theorem dX3_eatenIn_37 : decode cX3_eatenIn 37 = .ok (.ireturn, 1) := by decide +kernel
theorem dX3_eatenInAll_0 : decode cX3_eatenInAll 0 = .ok (.iconst 0, 1) := by decide +kernel
theorem dX3_eatenInAll_1 : decode cX3_eatenInAll 1 = .ok (.istore_n 1, 1) := by decide +kernel
theorem dX3_eatenInAll_2 : decode cX3_eatenInAll 2 = .ok (.iconst 0, 1) := by decide +kernel
theorem dX3_eatenInAll_3 : decode cX3_eatenInAll 3 = .ok (.istore_n 2, 1) := by decide +kernel
theorem dX3_eatenInAll_4 : decode cX3_eatenInAll 4 = .ok (.iload_n 2, 1) := by decide +kernel
theorem dX3_eatenInAll_5 : decode cX3_eatenInAll 5 = .ok (.bipush 8, 2) := by decide +kernel
theorem dX3_eatenInAll_7 : decode cX3_eatenInAll 7 = .ok (.if_icmp .ge 17, 3) := by decide +kernel
theorem dX3_eatenInAll_10 : decode cX3_eatenInAll 10 = .ok (.iload_n 1, 1) := by decide +kernel
theorem dX3_eatenInAll_11 : decode cX3_eatenInAll 11 = .ok (.aload_n 0, 1) := by decide +kernel
theorem dX3_eatenInAll_12 : decode cX3_eatenInAll 12 = .ok (.iload_n 2, 1) := by decide +kernel
theorem dX3_eatenInAll_13 : decode cX3_eatenInAll 13 = .ok (.invokevirtual 124, 3) := by decide +kernel
theorem dX3_eatenInAll_16 : decode cX3_eatenInAll 16 = .ok (.iadd, 1) := by decide +kernel
theorem dX3_eatenInAll_17 : decode cX3_eatenInAll 17 = .ok (.istore_n 1, 1) := by decide +kernel
theorem dX3_eatenInAll_18 : decode cX3_eatenInAll 18 = .ok (.iinc 2 1, 3) := by decide +kernel
theorem dX3_eatenInAll_21 : decode cX3_eatenInAll 21 = .ok (.goto (-17), 3) := by decide +kernel
theorem dX3_eatenInAll_24 : decode cX3_eatenInAll 24 = .ok (.iload_n 1, 1) := by decide +kernel
theorem dX3_eatenInAll_25 : decode cX3_eatenInAll 25 = .ok (.ireturn, 1) := by decide +kernel
theorem dX3_bulkOfAll_0 : decode cX3_bulkOfAll 0 = .ok (.iconst 0, 1) := by decide +kernel
theorem dX3_bulkOfAll_1 : decode cX3_bulkOfAll 1 = .ok (.istore_n 1, 1) := by decide +kernel
theorem dX3_bulkOfAll_2 : decode cX3_bulkOfAll 2 = .ok (.iconst 0, 1) := by decide +kernel
theorem dX3_bulkOfAll_3 : decode cX3_bulkOfAll 3 = .ok (.istore_n 2, 1) := by decide +kernel
theorem dX3_bulkOfAll_4 : decode cX3_bulkOfAll 4 = .ok (.iload_n 2, 1) := by decide +kernel
theorem dX3_bulkOfAll_5 : decode cX3_bulkOfAll 5 = .ok (.aload_n 0, 1) := by decide +kernel
theorem dX3_bulkOfAll_6 : decode cX3_bulkOfAll 6 = .ok (.getfield 24, 3) := by decide +kernel
theorem dX3_bulkOfAll_9 : decode cX3_bulkOfAll 9 = .ok (.if_icmp .ge 18, 3) := by decide +kernel
theorem dX3_bulkOfAll_12 : decode cX3_bulkOfAll 12 = .ok (.iload_n 1, 1) := by decide +kernel
theorem dX3_bulkOfAll_13 : decode cX3_bulkOfAll 13 = .ok (.aload_n 0, 1) := by decide +kernel
theorem dX3_bulkOfAll_14 : decode cX3_bulkOfAll 14 = .ok (.getfield 34, 3) := by decide +kernel
theorem dX3_bulkOfAll_17 : decode cX3_bulkOfAll 17 = .ok (.iload_n 2, 1) := by decide +kernel
theorem dX3_bulkOfAll_18 : decode cX3_bulkOfAll 18 = .ok (.iaload, 1) := by decide +kernel
theorem dX3_bulkOfAll_19 : decode cX3_bulkOfAll 19 = .ok (.iadd, 1) := by decide +kernel
theorem dX3_bulkOfAll_20 : decode cX3_bulkOfAll 20 = .ok (.istore_n 1, 1) := by decide +kernel
theorem dX3_bulkOfAll_21 : decode cX3_bulkOfAll 21 = .ok (.iinc 2 1, 3) := by decide +kernel
theorem dX3_bulkOfAll_24 : decode cX3_bulkOfAll 24 = .ok (.goto (-20), 3) := by decide +kernel
theorem dX3_bulkOfAll_27 : decode cX3_bulkOfAll 27 = .ok (.iload_n 1, 1) := by decide +kernel
theorem dX3_bulkOfAll_28 : decode cX3_bulkOfAll 28 = .ok (.ireturn, 1) := by decide +kernel
theorem dX3_freeBeds_0 : decode cX3_freeBeds 0 = .ok (.iconst 0, 1) := by decide +kernel
theorem dX3_freeBeds_1 : decode cX3_freeBeds 1 = .ok (.istore_n 1, 1) := by decide +kernel
theorem dX3_freeBeds_2 : decode cX3_freeBeds 2 = .ok (.iconst 0, 1) := by decide +kernel
theorem dX3_freeBeds_3 : decode cX3_freeBeds 3 = .ok (.istore_n 2, 1) := by decide +kernel
theorem dX3_freeBeds_4 : decode cX3_freeBeds 4 = .ok (.iload_n 2, 1) := by decide +kernel
theorem dX3_freeBeds_5 : decode cX3_freeBeds 5 = .ok (.bipush 8, 2) := by decide +kernel
theorem dX3_freeBeds_7 : decode cX3_freeBeds 7 = .ok (.if_icmp .ge 29, 3) := by decide +kernel
theorem dX3_freeBeds_10 : decode cX3_freeBeds 10 = .ok (.iload_n 1, 1) := by decide +kernel
theorem dX3_freeBeds_11 : decode cX3_freeBeds 11 = .ok (.iconst 0, 1) := by decide +kernel
theorem dX3_freeBeds_12 : decode cX3_freeBeds 12 = .ok (.aload_n 0, 1) := by decide +kernel
theorem dX3_freeBeds_13 : decode cX3_freeBeds 13 = .ok (.getfield 9, 3) := by decide +kernel
theorem dX3_freeBeds_16 : decode cX3_freeBeds 16 = .ok (.iload_n 2, 1) := by decide +kernel
theorem dX3_freeBeds_17 : decode cX3_freeBeds 17 = .ok (.iaload, 1) := by decide +kernel
theorem dX3_freeBeds_18 : decode cX3_freeBeds 18 = .ok (.aload_n 0, 1) := by decide +kernel
theorem dX3_freeBeds_19 : decode cX3_freeBeds 19 = .ok (.getfield 21, 3) := by decide +kernel
theorem dX3_freeBeds_22 : decode cX3_freeBeds 22 = .ok (.iload_n 2, 1) := by decide +kernel
theorem dX3_freeBeds_23 : decode cX3_freeBeds 23 = .ok (.iaload, 1) := by decide +kernel
theorem dX3_freeBeds_24 : decode cX3_freeBeds 24 = .ok (.isub, 1) := by decide +kernel
theorem dX3_freeBeds_25 : decode cX3_freeBeds 25 = .ok (.invokestatic 127, 3) := by decide +kernel
theorem dX3_freeBeds_28 : decode cX3_freeBeds 28 = .ok (.iadd, 1) := by decide +kernel
theorem dX3_freeBeds_29 : decode cX3_freeBeds 29 = .ok (.istore_n 1, 1) := by decide +kernel
theorem dX3_freeBeds_30 : decode cX3_freeBeds 30 = .ok (.iinc 2 1, 3) := by decide +kernel
theorem dX3_freeBeds_33 : decode cX3_freeBeds 33 = .ok (.goto (-29), 3) := by decide +kernel
theorem dX3_freeBeds_36 : decode cX3_freeBeds 36 = .ok (.iload_n 1, 1) := by decide +kernel
theorem dX3_freeBeds_37 : decode cX3_freeBeds 37 = .ok (.ireturn, 1) := by decide +kernel
