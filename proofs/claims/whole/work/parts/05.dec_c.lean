theorem dX4_init_0 : decode cX4_init 0 = .ok (.aload_n 0, 1) := by decide +kernel
theorem dX4_init_1 : decode cX4_init 1 = .ok (.invokespecial 1, 3) := by decide +kernel
theorem dX4_init_4 : decode cX4_init 4 = .ok (.aload_n 0, 1) := by decide +kernel
theorem dX4_init_5 : decode cX4_init 5 = .ok (.new 7, 3) := by decide +kernel
theorem dX4_init_8 : decode cX4_init 8 = .ok (.dup, 1) := by decide +kernel
theorem dX4_init_9 : decode cX4_init 9 = .ok (.invokespecial 9, 3) := by decide +kernel
theorem dX4_init_12 : decode cX4_init 12 = .ok (.putfield 10, 3) := by decide +kernel
theorem dX4_init_15 : decode cX4_init 15 = .ok (.aload_n 0, 1) := by decide +kernel
theorem dX4_init_16 : decode cX4_init 16 = .ok (.new 7, 3) := by decide +kernel
theorem dX4_init_19 : decode cX4_init 19 = .ok (.dup, 1) := by decide +kernel
theorem dX4_init_20 : decode cX4_init 20 = .ok (.invokespecial 9, 3) := by decide +kernel
theorem dX4_init_23 : decode cX4_init 23 = .ok (.putfield 16, 3) := by decide +kernel
theorem dX4_init_26 : decode cX4_init 26 = .ok (.aload_n 0, 1) := by decide +kernel
theorem dX4_init_27 : decode cX4_init 27 = .ok (.new 7, 3) := by decide +kernel
theorem dX4_init_30 : decode cX4_init 30 = .ok (.dup, 1) := by decide +kernel
theorem dX4_init_31 : decode cX4_init 31 = .ok (.invokespecial 9, 3) := by decide +kernel
theorem dX4_init_34 : decode cX4_init 34 = .ok (.putfield 19, 3) := by decide +kernel
theorem dX4_init_37 : decode cX4_init 37 = .ok (.aload_n 0, 1) := by decide +kernel
theorem dX4_init_38 : decode cX4_init 38 = .ok (.iconst 0, 1) := by decide +kernel
theorem dX4_init_39 : decode cX4_init 39 = .ok (.putfield 22, 3) := by decide +kernel
theorem dX4_init_42 : decode cX4_init 42 = .ok (.aload_n 0, 1) := by decide +kernel
theorem dX4_init_43 : decode cX4_init 43 = .ok (.new 26, 3) := by decide +kernel
theorem dX4_init_46 : decode cX4_init 46 = .ok (.dup, 1) := by decide +kernel
theorem dX4_init_47 : decode cX4_init 47 = .ok (.invokespecial 28, 3) := by decide +kernel
theorem dX4_init_50 : decode cX4_init 50 = .ok (.putfield 29, 3) := by decide +kernel
theorem dX4_init_53 : decode cX4_init 53 = .ok (.aload_n 0, 1) := by decide +kernel
theorem dX4_init_54 : decode cX4_init 54 = .ok (.iconst 4, 1) := by decide +kernel
theorem dX4_init_55 : decode cX4_init 55 = .ok (.anewarray 33, 3) := by decide +kernel
theorem dX4_init_58 : decode cX4_init 58 = .ok (.putfield 35, 3) := by decide +kernel
theorem dX4_init_61 : decode cX4_init 61 = .ok (.aload_n 0, 1) := by decide +kernel
theorem dX4_init_62 : decode cX4_init 62 = .ok (.bipush 7, 2) := by decide +kernel
theorem dX4_init_64 : decode cX4_init 64 = .ok (.newarray .int, 2) := by decide +kernel
theorem dX4_init_66 : decode cX4_init 66 = .ok (.putfield 39, 3) := by decide +kernel
theorem dX4_init_69 : decode cX4_init 69 = .ok (.iconst 0, 1) := by decide +kernel
theorem dX4_init_70 : decode cX4_init 70 = .ok (.istore_n 1, 1) := by decide +kernel
theorem dX4_init_71 : decode cX4_init 71 = .ok (.iload_n 1, 1) := by decide +kernel
theorem dX4_init_72 : decode cX4_init 72 = .ok (.iconst 4, 1) := by decide +kernel
theorem dX4_init_73 : decode cX4_init 73 = .ok (.if_icmp .ge 22, 3) := by decide +kernel
theorem dX4_init_76 : decode cX4_init 76 = .ok (.aload_n 0, 1) := by decide +kernel
theorem dX4_init_77 : decode cX4_init 77 = .ok (.getfield 35, 3) := by decide +kernel
theorem dX4_init_80 : decode cX4_init 80 = .ok (.iload_n 1, 1) := by decide +kernel
theorem dX4_init_81 : decode cX4_init 81 = .ok (.new 33, 3) := by decide +kernel
theorem dX4_init_84 : decode cX4_init 84 = .ok (.dup, 1) := by decide +kernel
theorem dX4_init_85 : decode cX4_init 85 = .ok (.invokespecial 43, 3) := by decide +kernel
theorem dX4_init_88 : decode cX4_init 88 = .ok (.aastore, 1) := by decide +kernel
theorem dX4_init_89 : decode cX4_init 89 = .ok (.iinc 1 1, 3) := by decide +kernel
theorem dX4_init_92 : decode cX4_init 92 = .ok (.goto (-21), 3) := by decide +kernel
theorem dX4_init_95 : decode cX4_init 95 = .ok (.return_, 1) := by decide +kernel
theorem dX4_house_0 : decode cX4_house 0 = .ok (.iload_n 1, 1) := by decide +kernel
theorem dX4_house_1 : decode cX4_house 1 = .ok (.invokestatic 44, 3) := by decide +kernel
theorem dX4_house_4 : decode cX4_house 4 = .ok (.ifCond .eq 14, 3) := by decide +kernel
theorem dX4_house_7 : decode cX4_house 7 = .ok (.iload_n 3, 1) := by decide +kernel
theorem dX4_house_8 : decode cX4_house 8 = .ok (.iload_n 2, 1) := by decide +kernel
theorem dX4_house_9 : decode cX4_house 9 = .ok (.invokestatic 48, 3) := by decide +kernel
theorem dX4_house_12 : decode cX4_house 12 = .ok (.invokestatic 52, 3) := by decide +kernel
theorem dX4_house_15 : decode cX4_house 15 = .ok (.ifCond .ne 10, 3) := by decide +kernel
theorem dX4_house_18 : decode cX4_house 18 = .ok (.aload_n 0, 1) := by decide +kernel
theorem dX4_house_19 : decode cX4_house 19 = .ok (.ldc 56, 2) := by decide +kernel
theorem dX4_house_21 : decode cX4_house 21 = .ok (.invokevirtual 57, 3) := by decide +kernel
theorem dX4_house_24 : decode cX4_house 24 = .ok (.ireturn, 1) := by decide +kernel
theorem dX4_house_25 : decode cX4_house 25 = .ok (.iload_n 2, 1) := by decide +kernel
theorem dX4_house_26 : decode cX4_house 26 = .ok (.ifCond .ne 13, 3) := by decide +kernel
theorem dX4_house_29 : decode cX4_house 29 = .ok (.aload_n 0, 1) := by decide +kernel
theorem dX4_house_30 : decode cX4_house 30 = .ok (.getfield 10, 3) := by decide +kernel
theorem dX4_house_33 : decode cX4_house 33 = .ok (.getfield 60, 3) := by decide +kernel
theorem dX4_house_36 : decode cX4_house 36 = .ok (.goto 25, 3) := by decide +kernel
theorem dX4_house_39 : decode cX4_house 39 = .ok (.iload_n 2, 1) := by decide +kernel
theorem dX4_house_40 : decode cX4_house 40 = .ok (.iconst 1, 1) := by decide +kernel
theorem dX4_house_41 : decode cX4_house 41 = .ok (.if_icmp .ne 13, 3) := by decide +kernel
theorem dX4_house_44 : decode cX4_house 44 = .ok (.aload_n 0, 1) := by decide +kernel
theorem dX4_house_45 : decode cX4_house 45 = .ok (.getfield 10, 3) := by decide +kernel
theorem dX4_house_48 : decode cX4_house 48 = .ok (.getfield 63, 3) := by decide +kernel
theorem dX4_house_51 : decode cX4_house 51 = .ok (.goto 10, 3) := by decide +kernel
theorem dX4_house_54 : decode cX4_house 54 = .ok (.aload_n 0, 1) := by decide +kernel
theorem dX4_house_55 : decode cX4_house 55 = .ok (.getfield 10, 3) := by decide +kernel
theorem dX4_house_58 : decode cX4_house 58 = .ok (.getfield 66, 3) := by decide +kernel
theorem dX4_house_61 : decode cX4_house 61 = .ok (.astore 4, 2) := by decide +kernel
theorem dX4_house_63 : decode cX4_house 63 = .ok (.aload 4, 2) := by decide +kernel
theorem dX4_house_65 : decode cX4_house 65 = .ok (.iload_n 1, 1) := by decide +kernel
theorem dX4_house_66 : decode cX4_house 66 = .ok (.iaload, 1) := by decide +kernel
theorem dX4_house_67 : decode cX4_house 67 = .ok (.istore 5, 2) := by decide +kernel
theorem dX4_house_69 : decode cX4_house 69 = .ok (.aload 4, 2) := by decide +kernel
theorem dX4_house_71 : decode cX4_house 71 = .ok (.iload_n 1, 1) := by decide +kernel
theorem dX4_house_72 : decode cX4_house 72 = .ok (.iload_n 3, 1) := by decide +kernel
theorem dX4_house_73 : decode cX4_house 73 = .ok (.iastore, 1) := by decide +kernel
theorem dX4_house_74 : decode cX4_house 74 = .ok (.iload 5, 2) := by decide +kernel
theorem dX4_house_76 : decode cX4_house 76 = .ok (.ireturn, 1) := by decide +kernel
theorem dX4_houseOf_0 : decode cX4_houseOf 0 = .ok (.iload_n 1, 1) := by decide +kernel
theorem dX4_houseOf_1 : decode cX4_houseOf 1 = .ok (.invokestatic 44, 3) := by decide +kernel
theorem dX4_houseOf_4 : decode cX4_houseOf 4 = .ok (.ifCond .ne 10, 3) := by decide +kernel
theorem dX4_houseOf_7 : decode cX4_houseOf 7 = .ok (.aload_n 0, 1) := by decide +kernel
theorem dX4_houseOf_8 : decode cX4_houseOf 8 = .ok (.ldc 56, 2) := by decide +kernel
theorem dX4_houseOf_10 : decode cX4_houseOf 10 = .ok (.invokevirtual 57, 3) := by decide +kernel
theorem dX4_houseOf_13 : decode cX4_houseOf 13 = .ok (.ireturn, 1) := by decide +kernel
theorem dX4_houseOf_14 : decode cX4_houseOf 14 = .ok (.iload_n 2, 1) := by decide +kernel
theorem dX4_houseOf_15 : decode cX4_houseOf 15 = .ok (.tableswitch 94 0 5 #[37, 47, 57, 67, 76, 85], 37) := by decide +kernel
theorem dX4_houseOf_52 : decode cX4_houseOf 52 = .ok (.aload_n 0, 1) := by decide +kernel
theorem dX4_houseOf_53 : decode cX4_houseOf 53 = .ok (.getfield 10, 3) := by decide +kernel
theorem dX4_houseOf_56 : decode cX4_houseOf 56 = .ok (.getfield 60, 3) := by decide +kernel
theorem dX4_houseOf_59 : decode cX4_houseOf 59 = .ok (.iload_n 1, 1) := by decide +kernel
theorem dX4_houseOf_60 : decode cX4_houseOf 60 = .ok (.iaload, 1) := by decide +kernel
theorem dX4_houseOf_61 : decode cX4_houseOf 61 = .ok (.ireturn, 1) := by decide +kernel
theorem dX4_houseOf_62 : decode cX4_houseOf 62 = .ok (.aload_n 0, 1) := by decide +kernel
theorem dX4_houseOf_63 : decode cX4_houseOf 63 = .ok (.getfield 10, 3) := by decide +kernel
theorem dX4_houseOf_66 : decode cX4_houseOf 66 = .ok (.getfield 63, 3) := by decide +kernel
theorem dX4_houseOf_69 : decode cX4_houseOf 69 = .ok (.iload_n 1, 1) := by decide +kernel
theorem dX4_houseOf_70 : decode cX4_houseOf 70 = .ok (.iaload, 1) := by decide +kernel
theorem dX4_houseOf_71 : decode cX4_houseOf 71 = .ok (.ireturn, 1) := by decide +kernel
theorem dX4_houseOf_72 : decode cX4_houseOf 72 = .ok (.aload_n 0, 1) := by decide +kernel
theorem dX4_houseOf_73 : decode cX4_houseOf 73 = .ok (.getfield 10, 3) := by decide +kernel
theorem dX4_houseOf_76 : decode cX4_houseOf 76 = .ok (.getfield 66, 3) := by decide +kernel
theorem dX4_houseOf_79 : decode cX4_houseOf 79 = .ok (.iload_n 1, 1) := by decide +kernel
theorem dX4_houseOf_80 : decode cX4_houseOf 80 = .ok (.iaload, 1) := by decide +kernel
theorem dX4_houseOf_81 : decode cX4_houseOf 81 = .ok (.ireturn, 1) := by decide +kernel
theorem dX4_houseOf_82 : decode cX4_houseOf 82 = .ok (.aload_n 0, 1) := by decide +kernel
theorem dX4_houseOf_83 : decode cX4_houseOf 83 = .ok (.getfield 10, 3) := by decide +kernel
theorem dX4_houseOf_86 : decode cX4_houseOf 86 = .ok (.iload_n 1, 1) := by decide +kernel
theorem dX4_houseOf_87 : decode cX4_houseOf 87 = .ok (.invokevirtual 69, 3) := by decide +kernel
theorem dX4_houseOf_90 : decode cX4_houseOf 90 = .ok (.ireturn, 1) := by decide +kernel
theorem dX4_houseOf_91 : decode cX4_houseOf 91 = .ok (.aload_n 0, 1) := by decide +kernel
theorem dX4_houseOf_92 : decode cX4_houseOf 92 = .ok (.getfield 10, 3) := by decide +kernel
theorem dX4_houseOf_95 : decode cX4_houseOf 95 = .ok (.iload_n 1, 1) := by decide +kernel
theorem dX4_houseOf_96 : decode cX4_houseOf 96 = .ok (.invokevirtual 72, 3) := by decide +kernel
theorem dX4_houseOf_99 : decode cX4_houseOf 99 = .ok (.ireturn, 1) := by decide +kernel
theorem dX4_houseOf_100 : decode cX4_houseOf 100 = .ok (.aload_n 0, 1) := by decide +kernel
theorem dX4_houseOf_101 : decode cX4_houseOf 101 = .ok (.getfield 10, 3) := by decide +kernel
theorem dX4_houseOf_104 : decode cX4_houseOf 104 = .ok (.iload_n 1, 1) := by decide +kernel
theorem dX4_houseOf_105 : decode cX4_houseOf 105 = .ok (.invokevirtual 75, 3) := by decide +kernel
theorem dX4_houseOf_108 : decode cX4_houseOf 108 = .ok (.ireturn, 1) := by decide +kernel
theorem dX4_houseOf_109 : decode cX4_houseOf 109 = .ok (.aload_n 0, 1) := by decide +kernel
theorem dX4_houseOf_110 : decode cX4_houseOf 110 = .ok (.ldc 56, 2) := by decide +kernel
theorem dX4_houseOf_112 : decode cX4_houseOf 112 = .ok (.invokevirtual 57, 3) := by decide +kernel
theorem dX4_houseOf_115 : decode cX4_houseOf 115 = .ok (.ireturn, 1) := by decide +kernel
theorem dX4_rumour_0 : decode cX4_rumour 0 = .ok (.iload_n 1, 1) := by decide +kernel
theorem dX4_rumour_1 : decode cX4_rumour 1 = .ok (.invokestatic 78, 3) := by decide +kernel
theorem dX4_rumour_4 : decode cX4_rumour 4 = .ok (.ifCond .eq 10, 3) := by decide +kernel
theorem dX4_rumour_7 : decode cX4_rumour 7 = .ok (.iload_n 2, 1) := by decide +kernel
theorem dX4_rumour_8 : decode cX4_rumour 8 = .ok (.invokestatic 81, 3) := by decide +kernel
theorem dX4_rumour_11 : decode cX4_rumour 11 = .ok (.ifCond .ne 10, 3) := by decide +kernel
theorem dX4_rumour_14 : decode cX4_rumour 14 = .ok (.aload_n 0, 1) := by decide +kernel
theorem dX4_rumour_15 : decode cX4_rumour 15 = .ok (.ldc 56, 2) := by decide +kernel
theorem dX4_rumour_17 : decode cX4_rumour 17 = .ok (.invokevirtual 57, 3) := by decide +kernel
theorem dX4_rumour_20 : decode cX4_rumour 20 = .ok (.ireturn, 1) := by decide +kernel
theorem dX4_rumour_21 : decode cX4_rumour 21 = .ok (.aload_n 0, 1) := by decide +kernel
theorem dX4_rumour_22 : decode cX4_rumour 22 = .ok (.getfield 10, 3) := by decide +kernel
theorem dX4_rumour_25 : decode cX4_rumour 25 = .ok (.invokevirtual 84, 3) := by decide +kernel
theorem dX4_rumour_28 : decode cX4_rumour 28 = .ok (.ifCond .eq 10, 3) := by decide +kernel
theorem dX4_rumour_31 : decode cX4_rumour 31 = .ok (.aload_n 0, 1) := by decide +kernel
theorem dX4_rumour_32 : decode cX4_rumour 32 = .ok (.ldc 88, 2) := by decide +kernel
theorem dX4_rumour_34 : decode cX4_rumour 34 = .ok (.invokevirtual 57, 3) := by decide +kernel
theorem dX4_rumour_37 : decode cX4_rumour 37 = .ok (.ireturn, 1) := by decide +kernel
theorem dX4_rumour_38 : decode cX4_rumour 38 = .ok (.aload_n 0, 1) := by decide +kernel
theorem dX4_rumour_39 : decode cX4_rumour 39 = .ok (.getfield 10, 3) := by decide +kernel
theorem dX4_rumour_42 : decode cX4_rumour 42 = .ok (.iload_n 1, 1) := by decide +kernel
theorem dX4_rumour_43 : decode cX4_rumour 43 = .ok (.iload_n 2, 1) := by decide +kernel
theorem dX4_rumour_44 : decode cX4_rumour 44 = .ok (.bipush 10, 2) := by decide +kernel
theorem dX4_rumour_46 : decode cX4_rumour 46 = .ok (.invokevirtual 89, 3) := by decide +kernel
theorem dX4_rumour_49 : decode cX4_rumour 49 = .ok (.ireturn, 1) := by decide +kernel
theorem dX4_of_0 : decode cX4_of 0 = .ok (.aload_n 0, 1) := by decide +kernel
theorem dX4_of_1 : decode cX4_of 1 = .ok (.iload_n 1, 1) := by decide +kernel
theorem dX4_of_2 : decode cX4_of 2 = .ok (.invokevirtual 93, 3) := by decide +kernel
theorem dX4_of_5 : decode cX4_of 5 = .ok (.ifCond .ne 10, 3) := by decide +kernel
theorem dX4_of_8 : decode cX4_of 8 = .ok (.aload_n 0, 1) := by decide +kernel
theorem dX4_of_9 : decode cX4_of 9 = .ok (.ldc 56, 2) := by decide +kernel
theorem dX4_of_11 : decode cX4_of 11 = .ok (.invokevirtual 57, 3) := by decide +kernel
theorem dX4_of_14 : decode cX4_of 14 = .ok (.ireturn, 1) := by decide +kernel
theorem dX4_of_15 : decode cX4_of 15 = .ok (.iload_n 2, 1) := by decide +kernel
theorem dX4_of_16 : decode cX4_of 16 = .ok (.tableswitch 125 0 7 #[48, 58, 68, 78, 88, 98, 107, 116], 48) := by decide +kernel
theorem dX4_of_64 : decode cX4_of 64 = .ok (.aload_n 0, 1) := by decide +kernel
theorem dX4_of_65 : decode cX4_of 65 = .ok (.getfield 10, 3) := by decide +kernel
theorem dX4_of_68 : decode cX4_of 68 = .ok (.getfield 96, 3) := by decide +kernel
theorem dX4_of_71 : decode cX4_of 71 = .ok (.iload_n 1, 1) := by decide +kernel
theorem dX4_of_72 : decode cX4_of 72 = .ok (.iaload, 1) := by decide +kernel
theorem dX4_of_73 : decode cX4_of 73 = .ok (.ireturn, 1) := by decide +kernel
theorem dX4_of_74 : decode cX4_of 74 = .ok (.aload_n 0, 1) := by decide +kernel
theorem dX4_of_75 : decode cX4_of 75 = .ok (.getfield 10, 3) := by decide +kernel
theorem dX4_of_78 : decode cX4_of 78 = .ok (.getfield 99, 3) := by decide +kernel
theorem dX4_of_81 : decode cX4_of 81 = .ok (.iload_n 1, 1) := by decide +kernel
theorem dX4_of_82 : decode cX4_of 82 = .ok (.iaload, 1) := by decide +kernel
theorem dX4_of_83 : decode cX4_of 83 = .ok (.ireturn, 1) := by decide +kernel
theorem dX4_of_84 : decode cX4_of 84 = .ok (.aload_n 0, 1) := by decide +kernel
theorem dX4_of_85 : decode cX4_of 85 = .ok (.getfield 10, 3) := by decide +kernel
theorem dX4_of_88 : decode cX4_of 88 = .ok (.getfield 102, 3) := by decide +kernel
theorem dX4_of_91 : decode cX4_of 91 = .ok (.iload_n 1, 1) := by decide +kernel
theorem dX4_of_92 : decode cX4_of 92 = .ok (.iaload, 1) := by decide +kernel
theorem dX4_of_93 : decode cX4_of 93 = .ok (.ireturn, 1) := by decide +kernel
theorem dX4_of_94 : decode cX4_of 94 = .ok (.aload_n 0, 1) := by decide +kernel
theorem dX4_of_95 : decode cX4_of 95 = .ok (.getfield 10, 3) := by decide +kernel
theorem dX4_of_98 : decode cX4_of 98 = .ok (.getfield 105, 3) := by decide +kernel
theorem dX4_of_101 : decode cX4_of 101 = .ok (.iload_n 1, 1) := by decide +kernel
theorem dX4_of_102 : decode cX4_of 102 = .ok (.iaload, 1) := by decide +kernel
theorem dX4_of_103 : decode cX4_of 103 = .ok (.ireturn, 1) := by decide +kernel
theorem dX4_of_104 : decode cX4_of 104 = .ok (.aload_n 0, 1) := by decide +kernel
theorem dX4_of_105 : decode cX4_of 105 = .ok (.getfield 10, 3) := by decide +kernel
theorem dX4_of_108 : decode cX4_of 108 = .ok (.getfield 108, 3) := by decide +kernel
theorem dX4_of_111 : decode cX4_of 111 = .ok (.iload_n 1, 1) := by decide +kernel
theorem dX4_of_112 : decode cX4_of 112 = .ok (.iaload, 1) := by decide +kernel
theorem dX4_of_113 : decode cX4_of 113 = .ok (.ireturn, 1) := by decide +kernel
theorem dX4_of_114 : decode cX4_of 114 = .ok (.aload_n 0, 1) := by decide +kernel
theorem dX4_of_115 : decode cX4_of 115 = .ok (.getfield 10, 3) := by decide +kernel
theorem dX4_of_118 : decode cX4_of 118 = .ok (.iload_n 1, 1) := by decide +kernel
theorem dX4_of_119 : decode cX4_of 119 = .ok (.invokevirtual 111, 3) := by decide +kernel
theorem dX4_of_122 : decode cX4_of 122 = .ok (.ireturn, 1) := by decide +kernel
theorem dX4_of_123 : decode cX4_of 123 = .ok (.aload_n 0, 1) := by decide +kernel
theorem dX4_of_124 : decode cX4_of 124 = .ok (.getfield 10, 3) := by decide +kernel
theorem dX4_of_127 : decode cX4_of 127 = .ok (.iload_n 1, 1) := by decide +kernel
theorem dX4_of_128 : decode cX4_of 128 = .ok (.invokevirtual 114, 3) := by decide +kernel
theorem dX4_of_131 : decode cX4_of 131 = .ok (.ireturn, 1) := by decide +kernel
theorem dX4_of_132 : decode cX4_of 132 = .ok (.aload_n 0, 1) := by decide +kernel
theorem dX4_of_133 : decode cX4_of 133 = .ok (.getfield 10, 3) := by decide +kernel
theorem dX4_of_136 : decode cX4_of 136 = .ok (.iload_n 1, 1) := by decide +kernel
theorem dX4_of_137 : decode cX4_of 137 = .ok (.invokevirtual 117, 3) := by decide +kernel
theorem dX4_of_140 : decode cX4_of 140 = .ok (.ireturn, 1) := by decide +kernel
theorem dX4_of_141 : decode cX4_of 141 = .ok (.aload_n 0, 1) := by decide +kernel
theorem dX4_of_142 : decode cX4_of 142 = .ok (.ldc 56, 2) := by decide +kernel
theorem dX4_of_144 : decode cX4_of 144 = .ok (.invokevirtual 57, 3) := by decide +kernel
theorem dX4_of_147 : decode cX4_of 147 = .ok (.ireturn, 1) := by decide +kernel
theorem dX4_set_0 : decode cX4_set 0 = .ok (.aload_n 0, 1) := by decide +kernel
theorem dX4_set_1 : decode cX4_set 1 = .ok (.iload_n 1, 1) := by decide +kernel
theorem dX4_set_2 : decode cX4_set 2 = .ok (.invokevirtual 93, 3) := by decide +kernel
theorem dX4_set_5 : decode cX4_set 5 = .ok (.ifCond .eq 14, 3) := by decide +kernel
theorem dX4_set_8 : decode cX4_set 8 = .ok (.iload_n 3, 1) := by decide +kernel
theorem dX4_set_9 : decode cX4_set 9 = .ok (.iload_n 2, 1) := by decide +kernel
theorem dX4_set_10 : decode cX4_set 10 = .ok (.invokestatic 120, 3) := by decide +kernel
theorem dX4_set_13 : decode cX4_set 13 = .ok (.invokestatic 52, 3) := by decide +kernel
theorem dX4_set_16 : decode cX4_set 16 = .ok (.ifCond .ne 10, 3) := by decide +kernel
theorem dX4_set_19 : decode cX4_set 19 = .ok (.aload_n 0, 1) := by decide +kernel
theorem dX4_set_20 : decode cX4_set 20 = .ok (.ldc 56, 2) := by decide +kernel
theorem dX4_set_22 : decode cX4_set 22 = .ok (.invokevirtual 57, 3) := by decide +kernel
theorem dX4_set_25 : decode cX4_set 25 = .ok (.ireturn, 1) := by decide +kernel
theorem dX4_set_26 : decode cX4_set 26 = .ok (.iload_n 2, 1) := by decide +kernel
theorem dX4_set_27 : decode cX4_set 27 = .ok (.iconst 1, 1) := by decide +kernel
theorem dX4_set_28 : decode cX4_set 28 = .ok (.if_icmp .ne 13, 3) := by decide +kernel
theorem dX4_set_31 : decode cX4_set 31 = .ok (.aload_n 0, 1) := by decide +kernel
theorem dX4_set_32 : decode cX4_set 32 = .ok (.getfield 10, 3) := by decide +kernel
theorem dX4_set_35 : decode cX4_set 35 = .ok (.getfield 99, 3) := by decide +kernel
theorem dX4_set_38 : decode cX4_set 38 = .ok (.goto 25, 3) := by decide +kernel
theorem dX4_set_41 : decode cX4_set 41 = .ok (.iload_n 2, 1) := by decide +kernel
theorem dX4_set_42 : decode cX4_set 42 = .ok (.iconst 2, 1) := by decide +kernel
theorem dX4_set_43 : decode cX4_set 43 = .ok (.if_icmp .ne 13, 3) := by decide +kernel
theorem dX4_set_46 : decode cX4_set 46 = .ok (.aload_n 0, 1) := by decide +kernel
theorem dX4_set_47 : decode cX4_set 47 = .ok (.getfield 10, 3) := by decide +kernel
theorem dX4_set_50 : decode cX4_set 50 = .ok (.getfield 102, 3) := by decide +kernel
theorem dX4_set_53 : decode cX4_set 53 = .ok (.goto 10, 3) := by decide +kernel
theorem dX4_set_56 : decode cX4_set 56 = .ok (.aload_n 0, 1) := by decide +kernel
theorem dX4_set_57 : decode cX4_set 57 = .ok (.getfield 10, 3) := by decide +kernel
theorem dX4_set_60 : decode cX4_set 60 = .ok (.getfield 105, 3) := by decide +kernel
theorem dX4_set_63 : decode cX4_set 63 = .ok (.astore 4, 2) := by decide +kernel
theorem dX4_set_65 : decode cX4_set 65 = .ok (.aload 4, 2) := by decide +kernel
theorem dX4_set_67 : decode cX4_set 67 = .ok (.iload_n 1, 1) := by decide +kernel
theorem dX4_set_68 : decode cX4_set 68 = .ok (.iaload, 1) := by decide +kernel
theorem dX4_set_69 : decode cX4_set 69 = .ok (.istore 5, 2) := by decide +kernel
theorem dX4_set_71 : decode cX4_set 71 = .ok (.aload 4, 2) := by decide +kernel
theorem dX4_set_73 : decode cX4_set 73 = .ok (.iload_n 1, 1) := by decide +kernel
theorem dX4_set_74 : decode cX4_set 74 = .ok (.iload_n 3, 1) := by decide +kernel
theorem dX4_set_75 : decode cX4_set 75 = .ok (.iastore, 1) := by decide +kernel
theorem dX4_set_76 : decode cX4_set 76 = .ok (.iload 5, 2) := by decide +kernel
theorem dX4_set_78 : decode cX4_set 78 = .ok (.ireturn, 1) := by decide +kernel
theorem dX4_turn_0 : decode cX4_turn 0 = .ok (.aload_n 0, 1) := by decide +kernel
theorem dX4_turn_1 : decode cX4_turn 1 = .ok (.iload_n 1, 1) := by decide +kernel
theorem dX4_turn_2 : decode cX4_turn 2 = .ok (.invokevirtual 93, 3) := by decide +kernel
theorem dX4_turn_5 : decode cX4_turn 5 = .ok (.ifCond .eq 10, 3) := by decide +kernel
theorem dX4_turn_8 : decode cX4_turn 8 = .ok (.iload_n 2, 1) := by decide +kernel
theorem dX4_turn_9 : decode cX4_turn 9 = .ok (.invokestatic 78, 3) := by decide +kernel
theorem dX4_turn_12 : decode cX4_turn 12 = .ok (.ifCond .ne 10, 3) := by decide +kernel
theorem dX4_turn_15 : decode cX4_turn 15 = .ok (.aload_n 0, 1) := by decide +kernel
theorem dX4_turn_16 : decode cX4_turn 16 = .ok (.ldc 56, 2) := by decide +kernel
theorem dX4_turn_18 : decode cX4_turn 18 = .ok (.invokevirtual 57, 3) := by decide +kernel
theorem dX4_turn_21 : decode cX4_turn 21 = .ok (.ireturn, 1) := by decide +kernel
theorem dX4_turn_22 : decode cX4_turn 22 = .ok (.aload_n 0, 1) := by decide +kernel
theorem dX4_turn_23 : decode cX4_turn 23 = .ok (.getfield 10, 3) := by decide +kernel
theorem dX4_turn_26 : decode cX4_turn 26 = .ok (.getfield 96, 3) := by decide +kernel
theorem dX4_turn_29 : decode cX4_turn 29 = .ok (.iload_n 1, 1) := by decide +kernel
theorem dX4_turn_30 : decode cX4_turn 30 = .ok (.iaload, 1) := by decide +kernel
theorem dX4_turn_31 : decode cX4_turn 31 = .ok (.istore_n 3, 1) := by decide +kernel
theorem dX4_turn_32 : decode cX4_turn 32 = .ok (.aload_n 0, 1) := by decide +kernel
theorem dX4_turn_33 : decode cX4_turn 33 = .ok (.getfield 10, 3) := by decide +kernel
theorem dX4_turn_36 : decode cX4_turn 36 = .ok (.getfield 96, 3) := by decide +kernel
theorem dX4_turn_39 : decode cX4_turn 39 = .ok (.iload_n 1, 1) := by decide +kernel
theorem dX4_turn_40 : decode cX4_turn 40 = .ok (.iload_n 2, 1) := by decide +kernel
theorem dX4_turn_41 : decode cX4_turn 41 = .ok (.iastore, 1) := by decide +kernel
theorem dX4_turn_42 : decode cX4_turn 42 = .ok (.iload_n 3, 1) := by decide +kernel
theorem dX4_turn_43 : decode cX4_turn 43 = .ok (.ireturn, 1) := by decide +kernel
theorem dX4_as_0 : decode cX4_as 0 = .ok (.aload_n 0, 1) := by decide +kernel
theorem dX4_as_1 : decode cX4_as 1 = .ok (.iload_n 1, 1) := by decide +kernel
theorem dX4_as_2 : decode cX4_as 2 = .ok (.invokevirtual 93, 3) := by decide +kernel
theorem dX4_as_5 : decode cX4_as 5 = .ok (.ifCond .eq 10, 3) := by decide +kernel
theorem dX4_as_8 : decode cX4_as 8 = .ok (.iload_n 2, 1) := by decide +kernel
theorem dX4_as_9 : decode cX4_as 9 = .ok (.invokestatic 78, 3) := by decide +kernel
theorem dX4_as_12 : decode cX4_as 12 = .ok (.ifCond .ne 10, 3) := by decide +kernel
theorem dX4_as_15 : decode cX4_as 15 = .ok (.aload_n 0, 1) := by decide +kernel
theorem dX4_as_16 : decode cX4_as 16 = .ok (.ldc 56, 2) := by decide +kernel
theorem dX4_as_18 : decode cX4_as 18 = .ok (.invokevirtual 57, 3) := by decide +kernel
theorem dX4_as_21 : decode cX4_as 21 = .ok (.ireturn, 1) := by decide +kernel
theorem dX4_as_22 : decode cX4_as 22 = .ok (.aload_n 0, 1) := by decide +kernel
theorem dX4_as_23 : decode cX4_as 23 = .ok (.getfield 10, 3) := by decide +kernel
theorem dX4_as_26 : decode cX4_as 26 = .ok (.getfield 96, 3) := by decide +kernel
theorem dX4_as_29 : decode cX4_as 29 = .ok (.iload_n 1, 1) := by decide +kernel
theorem dX4_as_30 : decode cX4_as 30 = .ok (.iaload, 1) := by decide +kernel
theorem dX4_as_31 : decode cX4_as 31 = .ok (.iload_n 2, 1) := by decide +kernel
theorem dX4_as_32 : decode cX4_as 32 = .ok (.invokestatic 123, 3) := by decide +kernel
theorem dX4_as_35 : decode cX4_as 35 = .ok (.ifCond .ne 10, 3) := by decide +kernel
theorem dX4_as_38 : decode cX4_as 38 = .ok (.aload_n 0, 1) := by decide +kernel
theorem dX4_as_39 : decode cX4_as 39 = .ok (.ldc 128, 2) := by decide +kernel
theorem dX4_as_41 : decode cX4_as 41 = .ok (.invokevirtual 57, 3) := by decide +kernel
theorem dX4_as_44 : decode cX4_as 44 = .ok (.ireturn, 1) := by decide +kernel
theorem dX4_as_45 : decode cX4_as 45 = .ok (.aload_n 0, 1) := by decide +kernel
theorem dX4_as_46 : decode cX4_as 46 = .ok (.getfield 10, 3) := by decide +kernel
theorem dX4_as_49 : decode cX4_as 49 = .ok (.getfield 102, 3) := by decide +kernel
theorem dX4_as_52 : decode cX4_as 52 = .ok (.iload_n 1, 1) := by decide +kernel
theorem dX4_as_53 : decode cX4_as 53 = .ok (.iaload, 1) := by decide +kernel
theorem dX4_as_54 : decode cX4_as 54 = .ok (.ireturn, 1) := by decide +kernel
theorem dX4_takes_0 : decode cX4_takes 0 = .ok (.iload_n 1, 1) := by decide +kernel
theorem dX4_takes_1 : decode cX4_takes 1 = .ok (.invokestatic 44, 3) := by decide +kernel
theorem dX4_takes_4 : decode cX4_takes 4 = .ok (.ifCond .eq 11, 3) := by decide +kernel
theorem dX4_takes_7 : decode cX4_takes 7 = .ok (.aload_n 0, 1) := by decide +kernel
theorem dX4_takes_8 : decode cX4_takes 8 = .ok (.iload_n 2, 1) := by decide +kernel
theorem dX4_takes_9 : decode cX4_takes 9 = .ok (.invokevirtual 93, 3) := by decide +kernel
theorem dX4_takes_12 : decode cX4_takes 12 = .ok (.ifCond .ne 10, 3) := by decide +kernel
theorem dX4_takes_15 : decode cX4_takes 15 = .ok (.aload_n 0, 1) := by decide +kernel
theorem dX4_takes_16 : decode cX4_takes 16 = .ok (.ldc 56, 2) := by decide +kernel
theorem dX4_takes_18 : decode cX4_takes 18 = .ok (.invokevirtual 57, 3) := by decide +kernel
theorem dX4_takes_21 : decode cX4_takes 21 = .ok (.ireturn, 1) := by decide +kernel
theorem dX4_takes_22 : decode cX4_takes 22 = .ok (.aload_n 0, 1) := by decide +kernel
theorem dX4_takes_23 : decode cX4_takes 23 = .ok (.getfield 10, 3) := by decide +kernel
theorem dX4_takes_26 : decode cX4_takes 26 = .ok (.iload_n 1, 1) := by decide +kernel
theorem dX4_takes_27 : decode cX4_takes 27 = .ok (.aload_n 0, 1) := by decide +kernel
theorem dX4_takes_28 : decode cX4_takes 28 = .ok (.getfield 10, 3) := by decide +kernel
theorem dX4_takes_31 : decode cX4_takes 31 = .ok (.iload_n 2, 1) := by decide +kernel
theorem dX4_takes_32 : decode cX4_takes 32 = .ok (.invokevirtual 114, 3) := by decide +kernel
theorem dX4_takes_35 : decode cX4_takes 35 = .ok (.invokevirtual 129, 3) := by decide +kernel
theorem dX4_takes_38 : decode cX4_takes 38 = .ok (.ifCond .eq 7, 3) := by decide +kernel
theorem dX4_takes_41 : decode cX4_takes 41 = .ok (.iconst 1, 1) := by decide +kernel
theorem dX4_takes_42 : decode cX4_takes 42 = .ok (.goto 4, 3) := by decide +kernel
theorem dX4_takes_45 : decode cX4_takes 45 = .ok (.iconst 0, 1) := by decide +kernel
theorem dX4_takes_46 : decode cX4_takes 46 = .ok (.ireturn, 1) := by decide +kernel
theorem dX4_comeIn_0 : decode cX4_comeIn 0 = .ok (.aload_n 0, 1) := by decide +kernel
theorem dX4_comeIn_1 : decode cX4_comeIn 1 = .ok (.iload_n 1, 1) := by decide +kernel
theorem dX4_comeIn_2 : decode cX4_comeIn 2 = .ok (.invokevirtual 93, 3) := by decide +kernel
theorem dX4_comeIn_5 : decode cX4_comeIn 5 = .ok (.ifCond .ne 10, 3) := by decide +kernel
theorem dX4_comeIn_8 : decode cX4_comeIn 8 = .ok (.aload_n 0, 1) := by decide +kernel
theorem dX4_comeIn_9 : decode cX4_comeIn 9 = .ok (.ldc 56, 2) := by decide +kernel
theorem dX4_comeIn_11 : decode cX4_comeIn 11 = .ok (.invokevirtual 57, 3) := by decide +kernel
theorem dX4_comeIn_14 : decode cX4_comeIn 14 = .ok (.ireturn, 1) := by decide +kernel
theorem dX4_comeIn_15 : decode cX4_comeIn 15 = .ok (.aload_n 0, 1) := by decide +kernel
theorem dX4_comeIn_16 : decode cX4_comeIn 16 = .ok (.getfield 10, 3) := by decide +kernel
theorem dX4_comeIn_19 : decode cX4_comeIn 19 = .ok (.getfield 108, 3) := by decide +kernel
theorem dX4_comeIn_22 : decode cX4_comeIn 22 = .ok (.iload_n 1, 1) := by decide +kernel
theorem dX4_comeIn_23 : decode cX4_comeIn 23 = .ok (.iaload, 1) := by decide +kernel
theorem dX4_comeIn_24 : decode cX4_comeIn 24 = .ok (.iconst (-1), 1) := by decide +kernel
theorem dX4_comeIn_25 : decode cX4_comeIn 25 = .ok (.if_icmp .ne 22, 3) := by decide +kernel
theorem dX4_comeIn_28 : decode cX4_comeIn 28 = .ok (.aload_n 0, 1) := by decide +kernel
theorem dX4_comeIn_29 : decode cX4_comeIn 29 = .ok (.getfield 10, 3) := by decide +kernel
theorem dX4_comeIn_32 : decode cX4_comeIn 32 = .ok (.aload_n 0, 1) := by decide +kernel
theorem dX4_comeIn_33 : decode cX4_comeIn 33 = .ok (.getfield 10, 3) := by decide +kernel
theorem dX4_comeIn_36 : decode cX4_comeIn 36 = .ok (.getfield 99, 3) := by decide +kernel
theorem dX4_comeIn_39 : decode cX4_comeIn 39 = .ok (.iload_n 1, 1) := by decide +kernel
theorem dX4_comeIn_40 : decode cX4_comeIn 40 = .ok (.iaload, 1) := by decide +kernel
theorem dX4_comeIn_41 : decode cX4_comeIn 41 = .ok (.invokevirtual 132, 3) := by decide +kernel
theorem dX4_comeIn_44 : decode cX4_comeIn 44 = .ok (.ifCond .eq 10, 3) := by decide +kernel
theorem dX4_comeIn_47 : decode cX4_comeIn 47 = .ok (.aload_n 0, 1) := by decide +kernel
theorem dX4_comeIn_48 : decode cX4_comeIn 48 = .ok (.ldc 135, 2) := by decide +kernel
theorem dX4_comeIn_50 : decode cX4_comeIn 50 = .ok (.invokevirtual 57, 3) := by decide +kernel
theorem dX4_comeIn_53 : decode cX4_comeIn 53 = .ok (.ireturn, 1) := by decide +kernel
theorem dX4_comeIn_54 : decode cX4_comeIn 54 = .ok (.aload_n 0, 1) := by decide +kernel
theorem dX4_comeIn_55 : decode cX4_comeIn 55 = .ok (.getfield 10, 3) := by decide +kernel
theorem dX4_comeIn_58 : decode cX4_comeIn 58 = .ok (.iload_n 1, 1) := by decide +kernel
theorem dX4_comeIn_59 : decode cX4_comeIn 59 = .ok (.invokevirtual 136, 3) := by decide +kernel
theorem dX4_comeIn_62 : decode cX4_comeIn 62 = .ok (.istore_n 2, 1) := by decide +kernel
theorem dX4_comeIn_63 : decode cX4_comeIn 63 = .ok (.aload_n 0, 1) := by decide +kernel
theorem dX4_comeIn_64 : decode cX4_comeIn 64 = .ok (.getfield 10, 3) := by decide +kernel
theorem dX4_comeIn_67 : decode cX4_comeIn 67 = .ok (.iload_n 1, 1) := by decide +kernel
theorem dX4_comeIn_68 : decode cX4_comeIn 68 = .ok (.iload_n 2, 1) := by decide +kernel
theorem dX4_comeIn_69 : decode cX4_comeIn 69 = .ok (.invokevirtual 139, 3) := by decide +kernel
theorem dX4_comeIn_72 : decode cX4_comeIn 72 = .ok (.iload_n 2, 1) := by decide +kernel
theorem dX4_comeIn_73 : decode cX4_comeIn 73 = .ok (.ireturn, 1) := by decide +kernel
theorem dX4_improve_0 : decode cX4_improve 0 = .ok (.aload_n 0, 1) := by decide +kernel
theorem dX4_improve_1 : decode cX4_improve 1 = .ok (.iload_n 1, 1) := by decide +kernel
theorem dX4_improve_2 : decode cX4_improve 2 = .ok (.invokevirtual 93, 3) := by decide +kernel
theorem dX4_improve_5 : decode cX4_improve 5 = .ok (.ifCond .eq 14, 3) := by decide +kernel
theorem dX4_improve_8 : decode cX4_improve 8 = .ok (.iload_n 2, 1) := by decide +kernel
theorem dX4_improve_9 : decode cX4_improve 9 = .ok (.iconst 1, 1) := by decide +kernel
theorem dX4_improve_10 : decode cX4_improve 10 = .ok (.if_icmp .lt 9, 3) := by decide +kernel
theorem dX4_improve_13 : decode cX4_improve 13 = .ok (.iload_n 2, 1) := by decide +kernel
theorem dX4_improve_14 : decode cX4_improve 14 = .ok (.bipush 20, 2) := by decide +kernel
theorem dX4_improve_16 : decode cX4_improve 16 = .ok (.if_icmp .le 10, 3) := by decide +kernel
theorem dX4_improve_19 : decode cX4_improve 19 = .ok (.aload_n 0, 1) := by decide +kernel
theorem dX4_improve_20 : decode cX4_improve 20 = .ok (.ldc 56, 2) := by decide +kernel
theorem dX4_improve_22 : decode cX4_improve 22 = .ok (.invokevirtual 57, 3) := by decide +kernel
theorem dX4_improve_25 : decode cX4_improve 25 = .ok (.ireturn, 1) := by decide +kernel
theorem dX4_improve_26 : decode cX4_improve 26 = .ok (.aload_n 0, 1) := by decide +kernel
theorem dX4_improve_27 : decode cX4_improve 27 = .ok (.getfield 10, 3) := by decide +kernel
theorem dX4_improve_30 : decode cX4_improve 30 = .ok (.getfield 108, 3) := by decide +kernel
theorem dX4_improve_33 : decode cX4_improve 33 = .ok (.iload_n 1, 1) := by decide +kernel
theorem dX4_improve_34 : decode cX4_improve 34 = .ok (.iaload, 1) := by decide +kernel
theorem dX4_improve_35 : decode cX4_improve 35 = .ok (.iconst (-1), 1) := by decide +kernel
theorem dX4_improve_36 : decode cX4_improve 36 = .ok (.if_icmp .ne 10, 3) := by decide +kernel
theorem dX4_improve_39 : decode cX4_improve 39 = .ok (.aload_n 0, 1) := by decide +kernel
theorem dX4_improve_40 : decode cX4_improve 40 = .ok (.ldc 135, 2) := by decide +kernel
theorem dX4_improve_42 : decode cX4_improve 42 = .ok (.invokevirtual 57, 3) := by decide +kernel
theorem dX4_improve_45 : decode cX4_improve 45 = .ok (.ireturn, 1) := by decide +kernel
theorem dX4_improve_46 : decode cX4_improve 46 = .ok (.aload_n 0, 1) := by decide +kernel
theorem dX4_improve_47 : decode cX4_improve 47 = .ok (.getfield 10, 3) := by decide +kernel
theorem dX4_improve_50 : decode cX4_improve 50 = .ok (.iload_n 1, 1) := by decide +kernel
theorem dX4_improve_51 : decode cX4_improve 51 = .ok (.iload_n 2, 1) := by decide +kernel
theorem dX4_improve_52 : decode cX4_improve 52 = .ok (.invokevirtual 143, 3) := by decide +kernel
theorem dX4_improve_55 : decode cX4_improve 55 = .ok (.aload_n 0, 1) := by decide +kernel
theorem dX4_improve_56 : decode cX4_improve 56 = .ok (.getfield 10, 3) := by decide +kernel
theorem dX4_improve_59 : decode cX4_improve 59 = .ok (.getfield 108, 3) := by decide +kernel
theorem dX4_improve_62 : decode cX4_improve 62 = .ok (.iload_n 1, 1) := by decide +kernel
theorem dX4_improve_63 : decode cX4_improve 63 = .ok (.iaload, 1) := by decide +kernel
theorem dX4_improve_64 : decode cX4_improve 64 = .ok (.ireturn, 1) := by decide +kernel
theorem dX4_comesTrue_0 : decode cX4_comesTrue 0 = .ok (.iload_n 1, 1) := by decide +kernel
theorem dX4_comesTrue_1 : decode cX4_comesTrue 1 = .ok (.invokestatic 81, 3) := by decide +kernel
theorem dX4_comesTrue_4 : decode cX4_comesTrue 4 = .ok (.ifCond .ne 10, 3) := by decide +kernel
theorem dX4_comesTrue_7 : decode cX4_comesTrue 7 = .ok (.aload_n 0, 1) := by decide +kernel
theorem dX4_comesTrue_8 : decode cX4_comesTrue 8 = .ok (.ldc 56, 2) := by decide +kernel
theorem dX4_comesTrue_10 : decode cX4_comesTrue 10 = .ok (.invokevirtual 57, 3) := by decide +kernel
theorem dX4_comesTrue_13 : decode cX4_comesTrue 13 = .ok (.ireturn, 1) := by decide +kernel
theorem dX4_comesTrue_14 : decode cX4_comesTrue 14 = .ok (.aload_n 0, 1) := by decide +kernel
theorem dX4_comesTrue_15 : decode cX4_comesTrue 15 = .ok (.getfield 10, 3) := by decide +kernel
theorem dX4_comesTrue_18 : decode cX4_comesTrue 18 = .ok (.iload_n 1, 1) := by decide +kernel
theorem dX4_comesTrue_19 : decode cX4_comesTrue 19 = .ok (.invokevirtual 146, 3) := by decide +kernel
theorem dX4_comesTrue_22 : decode cX4_comesTrue 22 = .ok (.ireturn, 1) := by decide +kernel
theorem dX4_forget_0 : decode cX4_forget 0 = .ok (.iload_n 1, 1) := by decide +kernel
theorem dX4_forget_1 : decode cX4_forget 1 = .ok (.invokestatic 81, 3) := by decide +kernel
theorem dX4_forget_4 : decode cX4_forget 4 = .ok (.ifCond .ne 10, 3) := by decide +kernel
theorem dX4_forget_7 : decode cX4_forget 7 = .ok (.aload_n 0, 1) := by decide +kernel
theorem dX4_forget_8 : decode cX4_forget 8 = .ok (.ldc 56, 2) := by decide +kernel
theorem dX4_forget_10 : decode cX4_forget 10 = .ok (.invokevirtual 57, 3) := by decide +kernel
theorem dX4_forget_13 : decode cX4_forget 13 = .ok (.ireturn, 1) := by decide +kernel
theorem dX4_forget_14 : decode cX4_forget 14 = .ok (.aload_n 0, 1) := by decide +kernel
theorem dX4_forget_15 : decode cX4_forget 15 = .ok (.getfield 10, 3) := by decide +kernel
theorem dX4_forget_18 : decode cX4_forget 18 = .ok (.iload_n 1, 1) := by decide +kernel
theorem dX4_forget_19 : decode cX4_forget 19 = .ok (.invokevirtual 132, 3) := by decide +kernel
theorem dX4_forget_22 : decode cX4_forget 22 = .ok (.ifCond .eq 7, 3) := by decide +kernel
theorem dX4_forget_25 : decode cX4_forget 25 = .ok (.iconst 1, 1) := by decide +kernel
theorem dX4_forget_26 : decode cX4_forget 26 = .ok (.goto 4, 3) := by decide +kernel
theorem dX4_forget_29 : decode cX4_forget 29 = .ok (.iconst 0, 1) := by decide +kernel
theorem dX4_forget_30 : decode cX4_forget 30 = .ok (.istore_n 2, 1) := by decide +kernel
theorem dX4_forget_31 : decode cX4_forget 31 = .ok (.aload_n 0, 1) := by decide +kernel
theorem dX4_forget_32 : decode cX4_forget 32 = .ok (.getfield 10, 3) := by decide +kernel
theorem dX4_forget_35 : decode cX4_forget 35 = .ok (.dup, 1) := by decide +kernel
theorem dX4_forget_36 : decode cX4_forget 36 = .ok (.getfield 149, 3) := by decide +kernel
theorem dX4_forget_39 : decode cX4_forget 39 = .ok (.iconst 1, 1) := by decide +kernel
theorem dX4_forget_40 : decode cX4_forget 40 = .ok (.iload_n 1, 1) := by decide +kernel
theorem dX4_forget_41 : decode cX4_forget 41 = .ok (.ishl, 1) := by decide +kernel
theorem dX4_forget_42 : decode cX4_forget 42 = .ok (.iconst (-1), 1) := by decide +kernel
theorem dX4_forget_43 : decode cX4_forget 43 = .ok (.ixor, 1) := by decide +kernel
theorem dX4_forget_44 : decode cX4_forget 44 = .ok (.iand, 1) := by decide +kernel
theorem dX4_forget_45 : decode cX4_forget 45 = .ok (.putfield 149, 3) := by decide +kernel
theorem dX4_forget_48 : decode cX4_forget 48 = .ok (.iload_n 2, 1) := by decide +kernel
theorem dX4_forget_49 : decode cX4_forget 49 = .ok (.ireturn, 1) := by decide +kernel
theorem dX4_days_0 : decode cX4_days 0 = .ok (.iload_n 1, 1) := by decide +kernel
theorem dX4_days_1 : decode cX4_days 1 = .ok (.iconst 1, 1) := by decide +kernel
theorem dX4_days_2 : decode cX4_days 2 = .ok (.if_icmp .lt 9, 3) := by decide +kernel
theorem dX4_days_5 : decode cX4_days 5 = .ok (.iload_n 1, 1) := by decide +kernel
theorem dX4_days_6 : decode cX4_days 6 = .ok (.bipush 60, 2) := by decide +kernel
theorem dX4_days_8 : decode cX4_days 8 = .ok (.if_icmp .le 10, 3) := by decide +kernel
theorem dX4_days_11 : decode cX4_days 11 = .ok (.aload_n 0, 1) := by decide +kernel
theorem dX4_days_12 : decode cX4_days 12 = .ok (.ldc 56, 2) := by decide +kernel
theorem dX4_days_14 : decode cX4_days 14 = .ok (.invokevirtual 57, 3) := by decide +kernel
theorem dX4_days_17 : decode cX4_days 17 = .ok (.ireturn, 1) := by decide +kernel
theorem dX4_days_18 : decode cX4_days 18 = .ok (.aload_n 0, 1) := by decide +kernel
theorem dX4_days_19 : decode cX4_days 19 = .ok (.getfield 10, 3) := by decide +kernel
theorem dX4_days_22 : decode cX4_days 22 = .ok (.getfield 153, 3) := by decide +kernel
theorem dX4_days_25 : decode cX4_days 25 = .ok (.iload_n 1, 1) := by decide +kernel
theorem dX4_days_26 : decode cX4_days 26 = .ok (.iadd, 1) := by decide +kernel
theorem dX4_days_27 : decode cX4_days 27 = .ok (.sipush 9999, 3) := by decide +kernel
theorem dX4_days_30 : decode cX4_days 30 = .ok (.if_icmp .le 10, 3) := by decide +kernel
theorem dX4_days_33 : decode cX4_days 33 = .ok (.aload_n 0, 1) := by decide +kernel
theorem dX4_days_34 : decode cX4_days 34 = .ok (.ldc 135, 2) := by decide +kernel
theorem dX4_days_36 : decode cX4_days 36 = .ok (.invokevirtual 57, 3) := by decide +kernel
theorem dX4_days_39 : decode cX4_days 39 = .ok (.ireturn, 1) := by decide +kernel
theorem dX4_days_40 : decode cX4_days 40 = .ok (.aload_n 0, 1) := by decide +kernel
theorem dX4_days_41 : decode cX4_days 41 = .ok (.getfield 10, 3) := by decide +kernel
theorem dX4_days_44 : decode cX4_days 44 = .ok (.iload_n 1, 1) := by decide +kernel
theorem dX4_days_45 : decode cX4_days 45 = .ok (.invokevirtual 156, 3) := by decide +kernel
theorem dX4_days_48 : decode cX4_days 48 = .ok (.aload_n 0, 1) := by decide +kernel
theorem dX4_days_49 : decode cX4_days 49 = .ok (.getfield 10, 3) := by decide +kernel
theorem dX4_days_52 : decode cX4_days 52 = .ok (.getfield 160, 3) := by decide +kernel
theorem dX4_days_55 : decode cX4_days 55 = .ok (.ireturn, 1) := by decide +kernel
theorem dX4_now_0 : decode cX4_now 0 = .ok (.iload_n 1, 1) := by decide +kernel
theorem dX4_now_1 : decode cX4_now 1 = .ok (.tableswitch 103 0 6 #[43, 51, 59, 68, 76, 87, 95], 43) := by decide +kernel
theorem dX4_now_44 : decode cX4_now 44 = .ok (.aload_n 0, 1) := by decide +kernel
theorem dX4_now_45 : decode cX4_now 45 = .ok (.getfield 10, 3) := by decide +kernel
theorem dX4_now_48 : decode cX4_now 48 = .ok (.getfield 153, 3) := by decide +kernel
theorem dX4_now_51 : decode cX4_now 51 = .ok (.ireturn, 1) := by decide +kernel
theorem dX4_now_52 : decode cX4_now 52 = .ok (.aload_n 0, 1) := by decide +kernel
theorem dX4_now_53 : decode cX4_now 53 = .ok (.getfield 10, 3) := by decide +kernel
theorem dX4_now_56 : decode cX4_now 56 = .ok (.getfield 149, 3) := by decide +kernel
theorem dX4_now_59 : decode cX4_now 59 = .ok (.ireturn, 1) := by decide +kernel
theorem dX4_now_60 : decode cX4_now 60 = .ok (.aload_n 0, 1) := by decide +kernel
theorem dX4_now_61 : decode cX4_now 61 = .ok (.getfield 10, 3) := by decide +kernel
theorem dX4_now_64 : decode cX4_now 64 = .ok (.iconst (-1), 1) := by decide +kernel
theorem dX4_now_65 : decode cX4_now 65 = .ok (.invokevirtual 69, 3) := by decide +kernel
theorem dX4_now_68 : decode cX4_now 68 = .ok (.ireturn, 1) := by decide +kernel
theorem dX4_now_69 : decode cX4_now 69 = .ok (.aload_n 0, 1) := by decide +kernel
theorem dX4_now_70 : decode cX4_now 70 = .ok (.getfield 10, 3) := by decide +kernel
theorem dX4_now_73 : decode cX4_now 73 = .ok (.invokevirtual 163, 3) := by decide +kernel
theorem dX4_now_76 : decode cX4_now 76 = .ok (.ireturn, 1) := by decide +kernel
theorem dX4_now_77 : decode cX4_now 77 = .ok (.aload_n 0, 1) := by decide +kernel
theorem dX4_now_78 : decode cX4_now 78 = .ok (.getfield 10, 3) := by decide +kernel
theorem dX4_now_81 : decode cX4_now 81 = .ok (.getfield 63, 3) := by decide +kernel
theorem dX4_now_84 : decode cX4_now 84 = .ok (.invokestatic 167, 3) := by decide +kernel
theorem dX4_now_87 : decode cX4_now 87 = .ok (.ireturn, 1) := by decide +kernel
theorem dX4_now_88 : decode cX4_now 88 = .ok (.aload_n 0, 1) := by decide +kernel
theorem dX4_now_89 : decode cX4_now 89 = .ok (.getfield 10, 3) := by decide +kernel
theorem dX4_now_92 : decode cX4_now 92 = .ok (.invokevirtual 171, 3) := by decide +kernel
theorem dX4_now_95 : decode cX4_now 95 = .ok (.ireturn, 1) := by decide +kernel
theorem dX4_now_96 : decode cX4_now 96 = .ok (.aload_n 0, 1) := by decide +kernel
theorem dX4_now_97 : decode cX4_now 97 = .ok (.getfield 10, 3) := by decide +kernel
theorem dX4_now_100 : decode cX4_now 100 = .ok (.invokevirtual 174, 3) := by decide +kernel
theorem dX4_now_103 : decode cX4_now 103 = .ok (.ireturn, 1) := by decide +kernel
theorem dX4_now_104 : decode cX4_now 104 = .ok (.aload_n 0, 1) := by decide +kernel
theorem dX4_now_105 : decode cX4_now 105 = .ok (.ldc 56, 2) := by decide +kernel
theorem dX4_now_107 : decode cX4_now 107 = .ok (.invokevirtual 57, 3) := by decide +kernel
theorem dX4_now_110 : decode cX4_now 110 = .ok (.ireturn, 1) := by decide +kernel
theorem dX4_on_0 : decode cX4_on 0 = .ok (.aload_n 0, 1) := by decide +kernel
theorem dX4_on_1 : decode cX4_on 1 = .ok (.iload_n 1, 1) := by decide +kernel
theorem dX4_on_2 : decode cX4_on 2 = .ok (.invokevirtual 93, 3) := by decide +kernel
theorem dX4_on_5 : decode cX4_on 5 = .ok (.ifCond .eq 20, 3) := by decide +kernel
theorem dX4_on_8 : decode cX4_on 8 = .ok (.iload_n 2, 1) := by decide +kernel
theorem dX4_on_9 : decode cX4_on 9 = .ok (.bipush 60, 2) := by decide +kernel
theorem dX4_on_11 : decode cX4_on 11 = .ok (.invokestatic 52, 3) := by decide +kernel
theorem dX4_on_14 : decode cX4_on 14 = .ok (.ifCond .eq 11, 3) := by decide +kernel
theorem dX4_on_17 : decode cX4_on 17 = .ok (.iload_n 3, 1) := by decide +kernel
theorem dX4_on_18 : decode cX4_on 18 = .ok (.iconst 1, 1) := by decide +kernel
theorem dX4_on_19 : decode cX4_on 19 = .ok (.invokestatic 52, 3) := by decide +kernel
theorem dX4_on_22 : decode cX4_on 22 = .ok (.ifCond .ne 10, 3) := by decide +kernel
theorem dX4_on_25 : decode cX4_on 25 = .ok (.aload_n 0, 1) := by decide +kernel
theorem dX4_on_26 : decode cX4_on 26 = .ok (.ldc 56, 2) := by decide +kernel
theorem dX4_on_28 : decode cX4_on 28 = .ok (.invokevirtual 57, 3) := by decide +kernel
theorem dX4_on_31 : decode cX4_on 31 = .ok (.ireturn, 1) := by decide +kernel
theorem dX4_on_32 : decode cX4_on 32 = .ok (.aload_n 0, 1) := by decide +kernel
theorem dX4_on_33 : decode cX4_on 33 = .ok (.getfield 16, 3) := by decide +kernel
theorem dX4_on_36 : decode cX4_on 36 = .ok (.aload_n 0, 1) := by decide +kernel
theorem dX4_on_37 : decode cX4_on 37 = .ok (.getfield 10, 3) := by decide +kernel
theorem dX4_on_40 : decode cX4_on 40 = .ok (.invokevirtual 177, 3) := by decide +kernel
theorem dX4_on_43 : decode cX4_on 43 = .ok (.aload_n 0, 1) := by decide +kernel
theorem dX4_on_44 : decode cX4_on 44 = .ok (.getfield 16, 3) := by decide +kernel
theorem dX4_on_47 : decode cX4_on 47 = .ok (.iload_n 2, 1) := by decide +kernel
theorem dX4_on_48 : decode cX4_on 48 = .ok (.invokevirtual 156, 3) := by decide +kernel
theorem dX4_on_51 : decode cX4_on 51 = .ok (.iload_n 3, 1) := by decide +kernel
theorem dX4_on_52 : decode cX4_on 52 = .ok (.ifCond .ne 15, 3) := by decide +kernel
theorem dX4_on_55 : decode cX4_on 55 = .ok (.aload_n 0, 1) := by decide +kernel
theorem dX4_on_56 : decode cX4_on 56 = .ok (.getfield 16, 3) := by decide +kernel
theorem dX4_on_59 : decode cX4_on 59 = .ok (.getfield 108, 3) := by decide +kernel
theorem dX4_on_62 : decode cX4_on 62 = .ok (.iload_n 1, 1) := by decide +kernel
theorem dX4_on_63 : decode cX4_on 63 = .ok (.iaload, 1) := by decide +kernel
theorem dX4_on_64 : decode cX4_on 64 = .ok (.goto 12, 3) := by decide +kernel
theorem dX4_on_67 : decode cX4_on 67 = .ok (.aload_n 0, 1) := by decide +kernel
theorem dX4_on_68 : decode cX4_on 68 = .ok (.getfield 16, 3) := by decide +kernel
theorem dX4_on_71 : decode cX4_on 71 = .ok (.getfield 102, 3) := by decide +kernel
theorem dX4_on_74 : decode cX4_on 74 = .ok (.iload_n 1, 1) := by decide +kernel
theorem dX4_on_75 : decode cX4_on 75 = .ok (.iaload, 1) := by decide +kernel
theorem dX4_on_76 : decode cX4_on 76 = .ok (.ireturn, 1) := by decide +kernel
theorem dX4_larder_0 : decode cX4_larder 0 = .ok (.iload_n 1, 1) := by decide +kernel
theorem dX4_larder_1 : decode cX4_larder 1 = .ok (.invokestatic 44, 3) := by decide +kernel
theorem dX4_larder_4 : decode cX4_larder 4 = .ok (.ifCond .eq 12, 3) := by decide +kernel
theorem dX4_larder_7 : decode cX4_larder 7 = .ok (.iload_n 2, 1) := by decide +kernel
theorem dX4_larder_8 : decode cX4_larder 8 = .ok (.bipush 60, 2) := by decide +kernel
theorem dX4_larder_10 : decode cX4_larder 10 = .ok (.invokestatic 52, 3) := by decide +kernel
theorem dX4_larder_13 : decode cX4_larder 13 = .ok (.ifCond .ne 10, 3) := by decide +kernel
theorem dX4_larder_16 : decode cX4_larder 16 = .ok (.aload_n 0, 1) := by decide +kernel
theorem dX4_larder_17 : decode cX4_larder 17 = .ok (.ldc 56, 2) := by decide +kernel
theorem dX4_larder_19 : decode cX4_larder 19 = .ok (.invokevirtual 57, 3) := by decide +kernel
theorem dX4_larder_22 : decode cX4_larder 22 = .ok (.ireturn, 1) := by decide +kernel
theorem dX4_larder_23 : decode cX4_larder 23 = .ok (.aload_n 0, 1) := by decide +kernel
theorem dX4_larder_24 : decode cX4_larder 24 = .ok (.getfield 16, 3) := by decide +kernel
theorem dX4_larder_27 : decode cX4_larder 27 = .ok (.aload_n 0, 1) := by decide +kernel
theorem dX4_larder_28 : decode cX4_larder 28 = .ok (.getfield 10, 3) := by decide +kernel
theorem dX4_larder_31 : decode cX4_larder 31 = .ok (.invokevirtual 177, 3) := by decide +kernel
theorem dX4_larder_34 : decode cX4_larder 34 = .ok (.aload_n 0, 1) := by decide +kernel
theorem dX4_larder_35 : decode cX4_larder 35 = .ok (.getfield 16, 3) := by decide +kernel
theorem dX4_larder_38 : decode cX4_larder 38 = .ok (.iload_n 2, 1) := by decide +kernel
theorem dX4_larder_39 : decode cX4_larder 39 = .ok (.invokevirtual 156, 3) := by decide +kernel
theorem dX4_larder_42 : decode cX4_larder 42 = .ok (.aload_n 0, 1) := by decide +kernel
theorem dX4_larder_43 : decode cX4_larder 43 = .ok (.getfield 16, 3) := by decide +kernel
theorem dX4_larder_46 : decode cX4_larder 46 = .ok (.getfield 63, 3) := by decide +kernel
theorem dX4_larder_49 : decode cX4_larder 49 = .ok (.iload_n 1, 1) := by decide +kernel
theorem dX4_larder_50 : decode cX4_larder 50 = .ok (.iaload, 1) := by decide +kernel
theorem dX4_larder_51 : decode cX4_larder 51 = .ok (.ireturn, 1) := by decide +kernel
theorem dX4_empty_0 : decode cX4_empty 0 = .ok (.iload_n 1, 1) := by decide +kernel
theorem dX4_empty_1 : decode cX4_empty 1 = .ok (.invokestatic 44, 3) := by decide +kernel
theorem dX4_empty_4 : decode cX4_empty 4 = .ok (.ifCond .ne 10, 3) := by decide +kernel
theorem dX4_empty_7 : decode cX4_empty 7 = .ok (.aload_n 0, 1) := by decide +kernel
theorem dX4_empty_8 : decode cX4_empty 8 = .ok (.ldc 56, 2) := by decide +kernel
theorem dX4_empty_10 : decode cX4_empty 10 = .ok (.invokevirtual 57, 3) := by decide +kernel
theorem dX4_empty_13 : decode cX4_empty 13 = .ok (.ireturn, 1) := by decide +kernel
theorem dX4_empty_14 : decode cX4_empty 14 = .ok (.aload_n 0, 1) := by decide +kernel
theorem dX4_empty_15 : decode cX4_empty 15 = .ok (.getfield 16, 3) := by decide +kernel
theorem dX4_empty_18 : decode cX4_empty 18 = .ok (.aload_n 0, 1) := by decide +kernel
theorem dX4_empty_19 : decode cX4_empty 19 = .ok (.getfield 10, 3) := by decide +kernel
theorem dX4_empty_22 : decode cX4_empty 22 = .ok (.invokevirtual 177, 3) := by decide +kernel
theorem dX4_empty_25 : decode cX4_empty 25 = .ok (.iconst 0, 1) := by decide +kernel
theorem dX4_empty_26 : decode cX4_empty 26 = .ok (.istore_n 2, 1) := by decide +kernel
theorem dX4_empty_27 : decode cX4_empty 27 = .ok (.iload_n 2, 1) := by decide +kernel
theorem dX4_empty_28 : decode cX4_empty 28 = .ok (.bipush 60, 2) := by decide +kernel
theorem dX4_empty_30 : decode cX4_empty 30 = .ok (.if_icmp .gt 30, 3) := by decide +kernel
theorem dX4_empty_33 : decode cX4_empty 33 = .ok (.aload_n 0, 1) := by decide +kernel
theorem dX4_empty_34 : decode cX4_empty 34 = .ok (.getfield 16, 3) := by decide +kernel
theorem dX4_empty_37 : decode cX4_empty 37 = .ok (.getfield 63, 3) := by decide +kernel
theorem dX4_empty_40 : decode cX4_empty 40 = .ok (.iload_n 1, 1) := by decide +kernel
theorem dX4_empty_41 : decode cX4_empty 41 = .ok (.iaload, 1) := by decide +kernel
theorem dX4_empty_42 : decode cX4_empty 42 = .ok (.ifCond .ne 5, 3) := by decide +kernel
theorem dX4_empty_45 : decode cX4_empty 45 = .ok (.iload_n 2, 1) := by decide +kernel
theorem dX4_empty_46 : decode cX4_empty 46 = .ok (.ireturn, 1) := by decide +kernel
theorem dX4_empty_47 : decode cX4_empty 47 = .ok (.aload_n 0, 1) := by decide +kernel
theorem dX4_empty_48 : decode cX4_empty 48 = .ok (.getfield 16, 3) := by decide +kernel
theorem dX4_empty_51 : decode cX4_empty 51 = .ok (.invokevirtual 181, 3) := by decide +kernel
theorem dX4_empty_54 : decode cX4_empty 54 = .ok (.iinc 2 1, 3) := by decide +kernel
theorem dX4_empty_57 : decode cX4_empty 57 = .ok (.goto (-30), 3) := by decide +kernel
theorem dX4_empty_60 : decode cX4_empty 60 = .ok (.aload_n 0, 1) := by decide +kernel
theorem dX4_empty_61 : decode cX4_empty 61 = .ok (.ldc 184, 2) := by decide +kernel
theorem dX4_empty_63 : decode cX4_empty 63 = .ok (.invokevirtual 57, 3) := by decide +kernel
theorem dX4_empty_66 : decode cX4_empty 66 = .ok (.ireturn, 1) := by decide +kernel
theorem dX4_many_0 : decode cX4_many 0 = .ok (.iload_n 1, 1) := by decide +kernel
theorem dX4_many_1 : decode cX4_many 1 = .ok (.bipush 60, 2) := by decide +kernel
theorem dX4_many_3 : decode cX4_many 3 = .ok (.invokestatic 52, 3) := by decide +kernel
theorem dX4_many_6 : decode cX4_many 6 = .ok (.ifCond .ne 10, 3) := by decide +kernel
theorem dX4_many_9 : decode cX4_many 9 = .ok (.aload_n 0, 1) := by decide +kernel
theorem dX4_many_10 : decode cX4_many 10 = .ok (.ldc 56, 2) := by decide +kernel
theorem dX4_many_12 : decode cX4_many 12 = .ok (.invokevirtual 57, 3) := by decide +kernel
theorem dX4_many_15 : decode cX4_many 15 = .ok (.ireturn, 1) := by decide +kernel
theorem dX4_many_16 : decode cX4_many 16 = .ok (.aload_n 0, 1) := by decide +kernel
theorem dX4_many_17 : decode cX4_many 17 = .ok (.getfield 16, 3) := by decide +kernel
theorem dX4_many_20 : decode cX4_many 20 = .ok (.aload_n 0, 1) := by decide +kernel
theorem dX4_many_21 : decode cX4_many 21 = .ok (.getfield 10, 3) := by decide +kernel
theorem dX4_many_24 : decode cX4_many 24 = .ok (.invokevirtual 177, 3) := by decide +kernel
theorem dX4_many_27 : decode cX4_many 27 = .ok (.aload_n 0, 1) := by decide +kernel
theorem dX4_many_28 : decode cX4_many 28 = .ok (.getfield 16, 3) := by decide +kernel
theorem dX4_many_31 : decode cX4_many 31 = .ok (.iload_n 1, 1) := by decide +kernel
theorem dX4_many_32 : decode cX4_many 32 = .ok (.invokevirtual 156, 3) := by decide +kernel
theorem dX4_many_35 : decode cX4_many 35 = .ok (.aload_n 0, 1) := by decide +kernel
theorem dX4_many_36 : decode cX4_many 36 = .ok (.getfield 16, 3) := by decide +kernel
theorem dX4_many_39 : decode cX4_many 39 = .ok (.getfield 160, 3) := by decide +kernel
theorem dX4_many_42 : decode cX4_many 42 = .ok (.ireturn, 1) := by decide +kernel
theorem dX4_out_0 : decode cX4_out 0 = .ok (.aload_n 0, 1) := by decide +kernel
theorem dX4_out_1 : decode cX4_out 1 = .ok (.iload_n 1, 1) := by decide +kernel
theorem dX4_out_2 : decode cX4_out 2 = .ok (.invokevirtual 93, 3) := by decide +kernel
theorem dX4_out_5 : decode cX4_out 5 = .ok (.ifCond .ne 10, 3) := by decide +kernel
theorem dX4_out_8 : decode cX4_out 8 = .ok (.aload_n 0, 1) := by decide +kernel
theorem dX4_out_9 : decode cX4_out 9 = .ok (.ldc 56, 2) := by decide +kernel
theorem dX4_out_11 : decode cX4_out 11 = .ok (.invokevirtual 57, 3) := by decide +kernel
theorem dX4_out_14 : decode cX4_out 14 = .ok (.ireturn, 1) := by decide +kernel
theorem dX4_out_15 : decode cX4_out 15 = .ok (.aload_n 0, 1) := by decide +kernel
theorem dX4_out_16 : decode cX4_out 16 = .ok (.getfield 16, 3) := by decide +kernel
theorem dX4_out_19 : decode cX4_out 19 = .ok (.aload_n 0, 1) := by decide +kernel
theorem dX4_out_20 : decode cX4_out 20 = .ok (.getfield 10, 3) := by decide +kernel
theorem dX4_out_23 : decode cX4_out 23 = .ok (.invokevirtual 177, 3) := by decide +kernel
theorem dX4_out_26 : decode cX4_out 26 = .ok (.iconst 0, 1) := by decide +kernel
theorem dX4_out_27 : decode cX4_out 27 = .ok (.istore_n 2, 1) := by decide +kernel
theorem dX4_out_28 : decode cX4_out 28 = .ok (.iload_n 2, 1) := by decide +kernel
theorem dX4_out_29 : decode cX4_out 29 = .ok (.bipush 60, 2) := by decide +kernel
theorem dX4_out_31 : decode cX4_out 31 = .ok (.if_icmp .gt 31, 3) := by decide +kernel
theorem dX4_out_34 : decode cX4_out 34 = .ok (.aload_n 0, 1) := by decide +kernel
theorem dX4_out_35 : decode cX4_out 35 = .ok (.getfield 16, 3) := by decide +kernel
theorem dX4_out_38 : decode cX4_out 38 = .ok (.getfield 108, 3) := by decide +kernel
theorem dX4_out_41 : decode cX4_out 41 = .ok (.iload_n 1, 1) := by decide +kernel
theorem dX4_out_42 : decode cX4_out 42 = .ok (.iaload, 1) := by decide +kernel
theorem dX4_out_43 : decode cX4_out 43 = .ok (.iconst (-1), 1) := by decide +kernel
theorem dX4_out_44 : decode cX4_out 44 = .ok (.if_icmp .ne 5, 3) := by decide +kernel
theorem dX4_out_47 : decode cX4_out 47 = .ok (.iload_n 2, 1) := by decide +kernel
theorem dX4_out_48 : decode cX4_out 48 = .ok (.ireturn, 1) := by decide +kernel
theorem dX4_out_49 : decode cX4_out 49 = .ok (.aload_n 0, 1) := by decide +kernel
theorem dX4_out_50 : decode cX4_out 50 = .ok (.getfield 16, 3) := by decide +kernel
theorem dX4_out_53 : decode cX4_out 53 = .ok (.invokevirtual 181, 3) := by decide +kernel
theorem dX4_out_56 : decode cX4_out 56 = .ok (.iinc 2 1, 3) := by decide +kernel
theorem dX4_out_59 : decode cX4_out 59 = .ok (.goto (-31), 3) := by decide +kernel
theorem dX4_out_62 : decode cX4_out 62 = .ok (.aload_n 0, 1) := by decide +kernel
theorem dX4_out_63 : decode cX4_out 63 = .ok (.ldc 184, 2) := by decide +kernel
theorem dX4_out_65 : decode cX4_out 65 = .ok (.invokevirtual 57, 3) := by decide +kernel
theorem dX4_out_68 : decode cX4_out 68 = .ok (.ireturn, 1) := by decide +kernel
theorem dX4_fewest_0 : decode cX4_fewest 0 = .ok (.aload_n 0, 1) := by decide +kernel
theorem dX4_fewest_1 : decode cX4_fewest 1 = .ok (.iload_n 1, 1) := by decide +kernel
theorem dX4_fewest_2 : decode cX4_fewest 2 = .ok (.invokevirtual 93, 3) := by decide +kernel
theorem dX4_fewest_5 : decode cX4_fewest 5 = .ok (.ifCond .eq 10, 3) := by decide +kernel
theorem dX4_fewest_8 : decode cX4_fewest 8 = .ok (.iload_n 2, 1) := by decide +kernel
theorem dX4_fewest_9 : decode cX4_fewest 9 = .ok (.invokestatic 44, 3) := by decide +kernel
theorem dX4_fewest_12 : decode cX4_fewest 12 = .ok (.ifCond .ne 10, 3) := by decide +kernel
theorem dX4_fewest_15 : decode cX4_fewest 15 = .ok (.aload_n 0, 1) := by decide +kernel
theorem dX4_fewest_16 : decode cX4_fewest 16 = .ok (.ldc 56, 2) := by decide +kernel
theorem dX4_fewest_18 : decode cX4_fewest 18 = .ok (.invokevirtual 57, 3) := by decide +kernel
theorem dX4_fewest_21 : decode cX4_fewest 21 = .ok (.ireturn, 1) := by decide +kernel
theorem dX4_fewest_22 : decode cX4_fewest 22 = .ok (.aload_n 0, 1) := by decide +kernel
theorem dX4_fewest_23 : decode cX4_fewest 23 = .ok (.getfield 10, 3) := by decide +kernel
theorem dX4_fewest_26 : decode cX4_fewest 26 = .ok (.getfield 108, 3) := by decide +kernel
theorem dX4_fewest_29 : decode cX4_fewest 29 = .ok (.iload_n 1, 1) := by decide +kernel
theorem dX4_fewest_30 : decode cX4_fewest 30 = .ok (.iaload, 1) := by decide +kernel
theorem dX4_fewest_31 : decode cX4_fewest 31 = .ok (.iconst (-1), 1) := by decide +kernel
theorem dX4_fewest_32 : decode cX4_fewest 32 = .ok (.if_icmp .ne 10, 3) := by decide +kernel
theorem dX4_fewest_35 : decode cX4_fewest 35 = .ok (.aload_n 0, 1) := by decide +kernel
theorem dX4_fewest_36 : decode cX4_fewest 36 = .ok (.ldc 135, 2) := by decide +kernel
theorem dX4_fewest_38 : decode cX4_fewest 38 = .ok (.invokevirtual 57, 3) := by decide +kernel
theorem dX4_fewest_41 : decode cX4_fewest 41 = .ok (.ireturn, 1) := by decide +kernel
theorem dX4_fewest_42 : decode cX4_fewest 42 = .ok (.aload_n 0, 1) := by decide +kernel
theorem dX4_fewest_43 : decode cX4_fewest 43 = .ok (.getfield 16, 3) := by decide +kernel
theorem dX4_fewest_46 : decode cX4_fewest 46 = .ok (.aload_n 0, 1) := by decide +kernel
theorem dX4_fewest_47 : decode cX4_fewest 47 = .ok (.getfield 10, 3) := by decide +kernel
theorem dX4_fewest_50 : decode cX4_fewest 50 = .ok (.invokevirtual 177, 3) := by decide +kernel
theorem dX4_fewest_53 : decode cX4_fewest 53 = .ok (.iconst 0, 1) := by decide +kernel
theorem dX4_fewest_54 : decode cX4_fewest 54 = .ok (.istore_n 3, 1) := by decide +kernel
theorem dX4_fewest_55 : decode cX4_fewest 55 = .ok (.iload_n 3, 1) := by decide +kernel
theorem dX4_fewest_56 : decode cX4_fewest 56 = .ok (.bipush 40, 2) := by decide +kernel
theorem dX4_fewest_58 : decode cX4_fewest 58 = .ok (.if_icmp .gt 33, 3) := by decide +kernel
theorem dX4_fewest_61 : decode cX4_fewest 61 = .ok (.aload_n 0, 1) := by decide +kernel
theorem dX4_fewest_62 : decode cX4_fewest 62 = .ok (.getfield 16, 3) := by decide +kernel
theorem dX4_fewest_65 : decode cX4_fewest 65 = .ok (.getfield 108, 3) := by decide +kernel
theorem dX4_fewest_68 : decode cX4_fewest 68 = .ok (.iload_n 1, 1) := by decide +kernel
theorem dX4_fewest_69 : decode cX4_fewest 69 = .ok (.iaload, 1) := by decide +kernel
theorem dX4_fewest_70 : decode cX4_fewest 70 = .ok (.iload_n 2, 1) := by decide +kernel
theorem dX4_fewest_71 : decode cX4_fewest 71 = .ok (.if_icmp .ne 5, 3) := by decide +kernel
theorem dX4_fewest_74 : decode cX4_fewest 74 = .ok (.iload_n 3, 1) := by decide +kernel
theorem dX4_fewest_75 : decode cX4_fewest 75 = .ok (.ireturn, 1) := by decide +kernel
theorem dX4_fewest_76 : decode cX4_fewest 76 = .ok (.aload_n 0, 1) := by decide +kernel
theorem dX4_fewest_77 : decode cX4_fewest 77 = .ok (.getfield 16, 3) := by decide +kernel
theorem dX4_fewest_80 : decode cX4_fewest 80 = .ok (.iload_n 1, 1) := by decide +kernel
theorem dX4_fewest_81 : decode cX4_fewest 81 = .ok (.iconst 1, 1) := by decide +kernel
theorem dX4_fewest_82 : decode cX4_fewest 82 = .ok (.invokevirtual 143, 3) := by decide +kernel
theorem dX4_fewest_85 : decode cX4_fewest 85 = .ok (.iinc 3 1, 3) := by decide +kernel
theorem dX4_fewest_88 : decode cX4_fewest 88 = .ok (.goto (-33), 3) := by decide +kernel
theorem dX4_fewest_91 : decode cX4_fewest 91 = .ok (.aload_n 0, 1) := by decide +kernel
theorem dX4_fewest_92 : decode cX4_fewest 92 = .ok (.ldc 184, 2) := by decide +kernel
theorem dX4_fewest_94 : decode cX4_fewest 94 = .ok (.invokevirtual 57, 3) := by decide +kernel
theorem dX4_fewest_97 : decode cX4_fewest 97 = .ok (.ireturn, 1) := by decide +kernel
theorem dX4_least_0 : decode cX4_least 0 = .ok (.aload_n 0, 1) := by decide +kernel
theorem dX4_least_1 : decode cX4_least 1 = .ok (.iload_n 1, 1) := by decide +kernel
theorem dX4_least_2 : decode cX4_least 2 = .ok (.invokevirtual 93, 3) := by decide +kernel
theorem dX4_least_5 : decode cX4_least 5 = .ok (.ifCond .ne 10, 3) := by decide +kernel
theorem dX4_least_8 : decode cX4_least 8 = .ok (.aload_n 0, 1) := by decide +kernel
theorem dX4_least_9 : decode cX4_least 9 = .ok (.ldc 56, 2) := by decide +kernel
theorem dX4_least_11 : decode cX4_least 11 = .ok (.invokevirtual 57, 3) := by decide +kernel
theorem dX4_least_14 : decode cX4_least 14 = .ok (.ireturn, 1) := by decide +kernel
theorem dX4_least_15 : decode cX4_least 15 = .ok (.aload_n 0, 1) := by decide +kernel
theorem dX4_least_16 : decode cX4_least 16 = .ok (.getfield 10, 3) := by decide +kernel
theorem dX4_least_19 : decode cX4_least 19 = .ok (.getfield 108, 3) := by decide +kernel
theorem dX4_least_22 : decode cX4_least 22 = .ok (.iload_n 1, 1) := by decide +kernel
theorem dX4_least_23 : decode cX4_least 23 = .ok (.iaload, 1) := by decide +kernel
theorem dX4_least_24 : decode cX4_least 24 = .ok (.iconst (-1), 1) := by decide +kernel
theorem dX4_least_25 : decode cX4_least 25 = .ok (.if_icmp .ne 10, 3) := by decide +kernel
theorem dX4_least_28 : decode cX4_least 28 = .ok (.aload_n 0, 1) := by decide +kernel
theorem dX4_least_29 : decode cX4_least 29 = .ok (.ldc 135, 2) := by decide +kernel
theorem dX4_least_31 : decode cX4_least 31 = .ok (.invokevirtual 57, 3) := by decide +kernel
theorem dX4_least_34 : decode cX4_least 34 = .ok (.ireturn, 1) := by decide +kernel
theorem dX4_least_35 : decode cX4_least 35 = .ok (.iconst 1, 1) := by decide +kernel
theorem dX4_least_36 : decode cX4_least 36 = .ok (.istore_n 2, 1) := by decide +kernel
theorem dX4_least_37 : decode cX4_least 37 = .ok (.iload_n 2, 1) := by decide +kernel
theorem dX4_least_38 : decode cX4_least 38 = .ok (.bipush 20, 2) := by decide +kernel
theorem dX4_least_40 : decode cX4_least 40 = .ok (.if_icmp .gt 52, 3) := by decide +kernel
theorem dX4_least_43 : decode cX4_least 43 = .ok (.aload_n 0, 1) := by decide +kernel
theorem dX4_least_44 : decode cX4_least 44 = .ok (.getfield 16, 3) := by decide +kernel
theorem dX4_least_47 : decode cX4_least 47 = .ok (.aload_n 0, 1) := by decide +kernel
theorem dX4_least_48 : decode cX4_least 48 = .ok (.getfield 10, 3) := by decide +kernel
theorem dX4_least_51 : decode cX4_least 51 = .ok (.invokevirtual 177, 3) := by decide +kernel
theorem dX4_least_54 : decode cX4_least 54 = .ok (.aload_n 0, 1) := by decide +kernel
theorem dX4_least_55 : decode cX4_least 55 = .ok (.getfield 16, 3) := by decide +kernel
theorem dX4_least_58 : decode cX4_least 58 = .ok (.iload_n 1, 1) := by decide +kernel
theorem dX4_least_59 : decode cX4_least 59 = .ok (.iload_n 2, 1) := by decide +kernel
theorem dX4_least_60 : decode cX4_least 60 = .ok (.invokevirtual 143, 3) := by decide +kernel
theorem dX4_least_63 : decode cX4_least 63 = .ok (.aload_n 0, 1) := by decide +kernel
theorem dX4_least_64 : decode cX4_least 64 = .ok (.getfield 16, 3) := by decide +kernel
theorem dX4_least_67 : decode cX4_least 67 = .ok (.getfield 108, 3) := by decide +kernel
theorem dX4_least_70 : decode cX4_least 70 = .ok (.iload_n 1, 1) := by decide +kernel
theorem dX4_least_71 : decode cX4_least 71 = .ok (.iaload, 1) := by decide +kernel
theorem dX4_least_72 : decode cX4_least 72 = .ok (.aload_n 0, 1) := by decide +kernel
theorem dX4_least_73 : decode cX4_least 73 = .ok (.getfield 10, 3) := by decide +kernel
theorem dX4_least_76 : decode cX4_least 76 = .ok (.getfield 108, 3) := by decide +kernel
theorem dX4_least_79 : decode cX4_least 79 = .ok (.iload_n 1, 1) := by decide +kernel
theorem dX4_least_80 : decode cX4_least 80 = .ok (.iaload, 1) := by decide +kernel
theorem dX4_least_81 : decode cX4_least 81 = .ok (.if_icmp .eq 5, 3) := by decide +kernel
theorem dX4_least_84 : decode cX4_least 84 = .ok (.iload_n 2, 1) := by decide +kernel
theorem dX4_least_85 : decode cX4_least 85 = .ok (.ireturn, 1) := by decide +kernel
theorem dX4_least_86 : decode cX4_least 86 = .ok (.iinc 2 1, 3) := by decide +kernel
theorem dX4_least_89 : decode cX4_least 89 = .ok (.goto (-52), 3) := by decide +kernel
theorem dX4_least_92 : decode cX4_least 92 = .ok (.aload_n 0, 1) := by decide +kernel
theorem dX4_least_93 : decode cX4_least 93 = .ok (.ldc 184, 2) := by decide +kernel
theorem dX4_least_95 : decode cX4_least 95 = .ok (.invokevirtual 57, 3) := by decide +kernel
theorem dX4_least_98 : decode cX4_least 98 = .ok (.ireturn, 1) := by decide +kernel
theorem dX4_best_0 : decode cX4_best 0 = .ok (.iload_n 1, 1) := by decide +kernel
theorem dX4_best_1 : decode cX4_best 1 = .ok (.bipush 20, 2) := by decide +kernel
theorem dX4_best_3 : decode cX4_best 3 = .ok (.invokestatic 52, 3) := by decide +kernel
theorem dX4_best_6 : decode cX4_best 6 = .ok (.ifCond .ne 10, 3) := by decide +kernel
theorem dX4_best_9 : decode cX4_best 9 = .ok (.aload_n 0, 1) := by decide +kernel
theorem dX4_best_10 : decode cX4_best 10 = .ok (.ldc 56, 2) := by decide +kernel
theorem dX4_best_12 : decode cX4_best 12 = .ok (.invokevirtual 57, 3) := by decide +kernel
theorem dX4_best_15 : decode cX4_best 15 = .ok (.ireturn, 1) := by decide +kernel
theorem dX4_best_16 : decode cX4_best 16 = .ok (.iconst 0, 1) := by decide +kernel
theorem dX4_best_17 : decode cX4_best 17 = .ok (.istore_n 2, 1) := by decide +kernel
theorem dX4_best_18 : decode cX4_best 18 = .ok (.iconst (-1), 1) := by decide +kernel
theorem dX4_best_19 : decode cX4_best 19 = .ok (.istore_n 3, 1) := by decide +kernel
theorem dX4_best_20 : decode cX4_best 20 = .ok (.iconst 0, 1) := by decide +kernel
theorem dX4_best_21 : decode cX4_best 21 = .ok (.istore 4, 2) := by decide +kernel
theorem dX4_best_23 : decode cX4_best 23 = .ok (.iload 4, 2) := by decide +kernel
theorem dX4_best_25 : decode cX4_best 25 = .ok (.bipush 16, 2) := by decide +kernel
theorem dX4_best_27 : decode cX4_best 27 = .ok (.if_icmp .ge 62, 3) := by decide +kernel
theorem dX4_best_30 : decode cX4_best 30 = .ok (.aload_n 0, 1) := by decide +kernel
theorem dX4_best_31 : decode cX4_best 31 = .ok (.getfield 16, 3) := by decide +kernel
theorem dX4_best_34 : decode cX4_best 34 = .ok (.aload_n 0, 1) := by decide +kernel
theorem dX4_best_35 : decode cX4_best 35 = .ok (.getfield 10, 3) := by decide +kernel
theorem dX4_best_38 : decode cX4_best 38 = .ok (.invokevirtual 177, 3) := by decide +kernel
theorem dX4_best_41 : decode cX4_best 41 = .ok (.aload_n 0, 1) := by decide +kernel
theorem dX4_best_42 : decode cX4_best 42 = .ok (.getfield 16, 3) := by decide +kernel
theorem dX4_best_45 : decode cX4_best 45 = .ok (.iload 4, 2) := by decide +kernel
theorem dX4_best_47 : decode cX4_best 47 = .ok (.invokevirtual 146, 3) := by decide +kernel
theorem dX4_best_50 : decode cX4_best 50 = .ok (.pop, 1) := by decide +kernel
theorem dX4_best_51 : decode cX4_best 51 = .ok (.aload_n 0, 1) := by decide +kernel
theorem dX4_best_52 : decode cX4_best 52 = .ok (.getfield 16, 3) := by decide +kernel
theorem dX4_best_55 : decode cX4_best 55 = .ok (.iload_n 1, 1) := by decide +kernel
theorem dX4_best_56 : decode cX4_best 56 = .ok (.invokevirtual 156, 3) := by decide +kernel
theorem dX4_best_59 : decode cX4_best 59 = .ok (.aload_n 0, 1) := by decide +kernel
theorem dX4_best_60 : decode cX4_best 60 = .ok (.getfield 16, 3) := by decide +kernel
theorem dX4_best_63 : decode cX4_best 63 = .ok (.getfield 63, 3) := by decide +kernel
theorem dX4_best_66 : decode cX4_best 66 = .ok (.invokestatic 167, 3) := by decide +kernel
theorem dX4_best_69 : decode cX4_best 69 = .ok (.istore 5, 2) := by decide +kernel
theorem dX4_best_71 : decode cX4_best 71 = .ok (.iload 5, 2) := by decide +kernel
theorem dX4_best_73 : decode cX4_best 73 = .ok (.iload_n 3, 1) := by decide +kernel
theorem dX4_best_74 : decode cX4_best 74 = .ok (.if_icmp .le 9, 3) := by decide +kernel
theorem dX4_best_77 : decode cX4_best 77 = .ok (.iload 5, 2) := by decide +kernel
theorem dX4_best_79 : decode cX4_best 79 = .ok (.istore_n 3, 1) := by decide +kernel
theorem dX4_best_80 : decode cX4_best 80 = .ok (.iload 4, 2) := by decide +kernel
theorem dX4_best_82 : decode cX4_best 82 = .ok (.istore_n 2, 1) := by decide +kernel
theorem dX4_best_83 : decode cX4_best 83 = .ok (.iinc 4 1, 3) := by decide +kernel
theorem dX4_best_86 : decode cX4_best 86 = .ok (.goto (-63), 3) := by decide +kernel
theorem dX4_best_89 : decode cX4_best 89 = .ok (.iload_n 2, 1) := by decide +kernel
theorem dX4_best_90 : decode cX4_best 90 = .ok (.ireturn, 1) := by decide +kernel
theorem dX4_lean_0 : decode cX4_lean 0 = .ok (.iload_n 1, 1) := by decide +kernel
theorem dX4_lean_1 : decode cX4_lean 1 = .ok (.invokestatic 44, 3) := by decide +kernel
theorem dX4_lean_4 : decode cX4_lean 4 = .ok (.ifCond .eq 11, 3) := by decide +kernel
theorem dX4_lean_7 : decode cX4_lean 7 = .ok (.aload_n 0, 1) := by decide +kernel
theorem dX4_lean_8 : decode cX4_lean 8 = .ok (.iload_n 2, 1) := by decide +kernel
theorem dX4_lean_9 : decode cX4_lean 9 = .ok (.invokevirtual 93, 3) := by decide +kernel
theorem dX4_lean_12 : decode cX4_lean 12 = .ok (.ifCond .ne 10, 3) := by decide +kernel
theorem dX4_lean_15 : decode cX4_lean 15 = .ok (.aload_n 0, 1) := by decide +kernel
theorem dX4_lean_16 : decode cX4_lean 16 = .ok (.ldc 56, 2) := by decide +kernel
theorem dX4_lean_18 : decode cX4_lean 18 = .ok (.invokevirtual 57, 3) := by decide +kernel
theorem dX4_lean_21 : decode cX4_lean 21 = .ok (.ireturn, 1) := by decide +kernel
theorem dX4_lean_22 : decode cX4_lean 22 = .ok (.aload_n 0, 1) := by decide +kernel
theorem dX4_lean_23 : decode cX4_lean 23 = .ok (.getfield 10, 3) := by decide +kernel
theorem dX4_lean_26 : decode cX4_lean 26 = .ok (.iload_n 1, 1) := by decide +kernel
theorem dX4_lean_27 : decode cX4_lean 27 = .ok (.invokevirtual 185, 3) := by decide +kernel
theorem dX4_lean_30 : decode cX4_lean 30 = .ok (.ifCond .ne 10, 3) := by decide +kernel
theorem dX4_lean_33 : decode cX4_lean 33 = .ok (.aload_n 0, 1) := by decide +kernel
theorem dX4_lean_34 : decode cX4_lean 34 = .ok (.ldc 184, 2) := by decide +kernel
theorem dX4_lean_36 : decode cX4_lean 36 = .ok (.invokevirtual 57, 3) := by decide +kernel
theorem dX4_lean_39 : decode cX4_lean 39 = .ok (.ireturn, 1) := by decide +kernel
theorem dX4_lean_40 : decode cX4_lean 40 = .ok (.aload_n 0, 1) := by decide +kernel
theorem dX4_lean_41 : decode cX4_lean 41 = .ok (.getfield 10, 3) := by decide +kernel
theorem dX4_lean_44 : decode cX4_lean 44 = .ok (.iload_n 2, 1) := by decide +kernel
theorem dX4_lean_45 : decode cX4_lean 45 = .ok (.invokevirtual 114, 3) := by decide +kernel
theorem dX4_lean_48 : decode cX4_lean 48 = .ok (.ireturn, 1) := by decide +kernel
theorem dX4_leanFor_0 : decode cX4_leanFor 0 = .ok (.iload_n 1, 1) := by decide +kernel
theorem dX4_leanFor_1 : decode cX4_leanFor 1 = .ok (.invokestatic 44, 3) := by decide +kernel
theorem dX4_leanFor_4 : decode cX4_leanFor 4 = .ok (.ifCond .eq 12, 3) := by decide +kernel
theorem dX4_leanFor_7 : decode cX4_leanFor 7 = .ok (.iload_n 2, 1) := by decide +kernel
theorem dX4_leanFor_8 : decode cX4_leanFor 8 = .ok (.bipush 20, 2) := by decide +kernel
theorem dX4_leanFor_10 : decode cX4_leanFor 10 = .ok (.invokestatic 52, 3) := by decide +kernel
theorem dX4_leanFor_13 : decode cX4_leanFor 13 = .ok (.ifCond .ne 10, 3) := by decide +kernel
theorem dX4_leanFor_16 : decode cX4_leanFor 16 = .ok (.aload_n 0, 1) := by decide +kernel
theorem dX4_leanFor_17 : decode cX4_leanFor 17 = .ok (.ldc 56, 2) := by decide +kernel
theorem dX4_leanFor_19 : decode cX4_leanFor 19 = .ok (.invokevirtual 57, 3) := by decide +kernel
theorem dX4_leanFor_22 : decode cX4_leanFor 22 = .ok (.ireturn, 1) := by decide +kernel
theorem dX4_leanFor_23 : decode cX4_leanFor 23 = .ok (.iconst 0, 1) := by decide +kernel
theorem dX4_leanFor_24 : decode cX4_leanFor 24 = .ok (.istore_n 3, 1) := by decide +kernel
theorem dX4_leanFor_25 : decode cX4_leanFor 25 = .ok (.iconst (-1), 1) := by decide +kernel
theorem dX4_leanFor_26 : decode cX4_leanFor 26 = .ok (.istore 4, 2) := by decide +kernel
theorem dX4_leanFor_28 : decode cX4_leanFor 28 = .ok (.iconst 0, 1) := by decide +kernel
theorem dX4_leanFor_29 : decode cX4_leanFor 29 = .ok (.istore 5, 2) := by decide +kernel
theorem dX4_leanFor_31 : decode cX4_leanFor 31 = .ok (.iload 5, 2) := by decide +kernel
theorem dX4_leanFor_33 : decode cX4_leanFor 33 = .ok (.bipush 9, 2) := by decide +kernel
theorem dX4_leanFor_35 : decode cX4_leanFor 35 = .ok (.if_icmp .gt 67, 3) := by decide +kernel
theorem dX4_leanFor_38 : decode cX4_leanFor 38 = .ok (.aload_n 0, 1) := by decide +kernel
theorem dX4_leanFor_39 : decode cX4_leanFor 39 = .ok (.getfield 16, 3) := by decide +kernel
theorem dX4_leanFor_42 : decode cX4_leanFor 42 = .ok (.aload_n 0, 1) := by decide +kernel
theorem dX4_leanFor_43 : decode cX4_leanFor 43 = .ok (.getfield 10, 3) := by decide +kernel
theorem dX4_leanFor_46 : decode cX4_leanFor 46 = .ok (.invokevirtual 177, 3) := by decide +kernel
theorem dX4_leanFor_49 : decode cX4_leanFor 49 = .ok (.aload_n 0, 1) := by decide +kernel
theorem dX4_leanFor_50 : decode cX4_leanFor 50 = .ok (.getfield 16, 3) := by decide +kernel
theorem dX4_leanFor_53 : decode cX4_leanFor 53 = .ok (.getfield 66, 3) := by decide +kernel
theorem dX4_leanFor_56 : decode cX4_leanFor 56 = .ok (.iload_n 1, 1) := by decide +kernel
theorem dX4_leanFor_57 : decode cX4_leanFor 57 = .ok (.iload 5, 2) := by decide +kernel
theorem dX4_leanFor_59 : decode cX4_leanFor 59 = .ok (.iastore, 1) := by decide +kernel
theorem dX4_leanFor_60 : decode cX4_leanFor 60 = .ok (.aload_n 0, 1) := by decide +kernel
theorem dX4_leanFor_61 : decode cX4_leanFor 61 = .ok (.getfield 16, 3) := by decide +kernel
theorem dX4_leanFor_64 : decode cX4_leanFor 64 = .ok (.iload_n 2, 1) := by decide +kernel
theorem dX4_leanFor_65 : decode cX4_leanFor 65 = .ok (.invokevirtual 156, 3) := by decide +kernel
theorem dX4_leanFor_68 : decode cX4_leanFor 68 = .ok (.aload_n 0, 1) := by decide +kernel
theorem dX4_leanFor_69 : decode cX4_leanFor 69 = .ok (.getfield 16, 3) := by decide +kernel
theorem dX4_leanFor_72 : decode cX4_leanFor 72 = .ok (.getfield 63, 3) := by decide +kernel
theorem dX4_leanFor_75 : decode cX4_leanFor 75 = .ok (.iload_n 1, 1) := by decide +kernel
theorem dX4_leanFor_76 : decode cX4_leanFor 76 = .ok (.iaload, 1) := by decide +kernel
theorem dX4_leanFor_77 : decode cX4_leanFor 77 = .ok (.iload 4, 2) := by decide +kernel
theorem dX4_leanFor_79 : decode cX4_leanFor 79 = .ok (.if_icmp .le 17, 3) := by decide +kernel
theorem dX4_leanFor_82 : decode cX4_leanFor 82 = .ok (.aload_n 0, 1) := by decide +kernel
theorem dX4_leanFor_83 : decode cX4_leanFor 83 = .ok (.getfield 16, 3) := by decide +kernel
theorem dX4_leanFor_86 : decode cX4_leanFor 86 = .ok (.getfield 63, 3) := by decide +kernel
theorem dX4_leanFor_89 : decode cX4_leanFor 89 = .ok (.iload_n 1, 1) := by decide +kernel
theorem dX4_leanFor_90 : decode cX4_leanFor 90 = .ok (.iaload, 1) := by decide +kernel
theorem dX4_leanFor_91 : decode cX4_leanFor 91 = .ok (.istore 4, 2) := by decide +kernel
theorem dX4_leanFor_93 : decode cX4_leanFor 93 = .ok (.iload 5, 2) := by decide +kernel
theorem dX4_leanFor_95 : decode cX4_leanFor 95 = .ok (.istore_n 3, 1) := by decide +kernel
theorem dX4_leanFor_96 : decode cX4_leanFor 96 = .ok (.iinc 5 1, 3) := by decide +kernel
theorem dX4_leanFor_99 : decode cX4_leanFor 99 = .ok (.goto (-68), 3) := by decide +kernel
theorem dX4_leanFor_102 : decode cX4_leanFor 102 = .ok (.iload_n 3, 1) := by decide +kernel
theorem dX4_leanFor_103 : decode cX4_leanFor 103 = .ok (.ireturn, 1) := by decide +kernel
theorem dX4_kind_0 : decode cX4_kind 0 = .ok (.aload_n 0, 1) := by decide +kernel
theorem dX4_kind_1 : decode cX4_kind 1 = .ok (.iload_n 1, 1) := by decide +kernel
theorem dX4_kind_2 : decode cX4_kind 2 = .ok (.invokevirtual 93, 3) := by decide +kernel
theorem dX4_kind_5 : decode cX4_kind 5 = .ok (.ifCond .ne 10, 3) := by decide +kernel
theorem dX4_kind_8 : decode cX4_kind 8 = .ok (.aload_n 0, 1) := by decide +kernel
theorem dX4_kind_9 : decode cX4_kind 9 = .ok (.ldc 56, 2) := by decide +kernel
theorem dX4_kind_11 : decode cX4_kind 11 = .ok (.invokevirtual 57, 3) := by decide +kernel
theorem dX4_kind_14 : decode cX4_kind 14 = .ok (.ireturn, 1) := by decide +kernel
theorem dX4_kind_15 : decode cX4_kind 15 = .ok (.aload_n 0, 1) := by decide +kernel
theorem dX4_kind_16 : decode cX4_kind 16 = .ok (.getfield 10, 3) := by decide +kernel
theorem dX4_kind_19 : decode cX4_kind 19 = .ok (.getfield 102, 3) := by decide +kernel
theorem dX4_kind_22 : decode cX4_kind 22 = .ok (.iload_n 1, 1) := by decide +kernel
theorem dX4_kind_23 : decode cX4_kind 23 = .ok (.iaload, 1) := by decide +kernel
theorem dX4_kind_24 : decode cX4_kind 24 = .ok (.istore_n 2, 1) := by decide +kernel
theorem dX4_kind_25 : decode cX4_kind 25 = .ok (.aload_n 0, 1) := by decide +kernel
theorem dX4_kind_26 : decode cX4_kind 26 = .ok (.getfield 10, 3) := by decide +kernel
theorem dX4_kind_29 : decode cX4_kind 29 = .ok (.getfield 105, 3) := by decide +kernel
theorem dX4_kind_32 : decode cX4_kind 32 = .ok (.iload_n 1, 1) := by decide +kernel
theorem dX4_kind_33 : decode cX4_kind 33 = .ok (.iaload, 1) := by decide +kernel
theorem dX4_kind_34 : decode cX4_kind 34 = .ok (.istore_n 3, 1) := by decide +kernel
theorem dX4_kind_35 : decode cX4_kind 35 = .ok (.iconst 0, 1) := by decide +kernel
theorem dX4_kind_36 : decode cX4_kind 36 = .ok (.istore 4, 2) := by decide +kernel
theorem dX4_kind_38 : decode cX4_kind 38 = .ok (.iconst 1, 1) := by decide +kernel
theorem dX4_kind_39 : decode cX4_kind 39 = .ok (.istore 5, 2) := by decide +kernel
theorem dX4_kind_41 : decode cX4_kind 41 = .ok (.iload 5, 2) := by decide +kernel
theorem dX4_kind_43 : decode cX4_kind 43 = .ok (.bipush 6, 2) := by decide +kernel
theorem dX4_kind_45 : decode cX4_kind 45 = .ok (.if_icmp .ge 30, 3) := by decide +kernel
theorem dX4_kind_48 : decode cX4_kind 48 = .ok (.iload 5, 2) := by decide +kernel
theorem dX4_kind_50 : decode cX4_kind 50 = .ok (.iload_n 2, 1) := by decide +kernel
theorem dX4_kind_51 : decode cX4_kind 51 = .ok (.iload_n 3, 1) := by decide +kernel
theorem dX4_kind_52 : decode cX4_kind 52 = .ok (.invokestatic 188, 3) := by decide +kernel
theorem dX4_kind_55 : decode cX4_kind 55 = .ok (.iload 4, 2) := by decide +kernel
theorem dX4_kind_57 : decode cX4_kind 57 = .ok (.iload_n 2, 1) := by decide +kernel
theorem dX4_kind_58 : decode cX4_kind 58 = .ok (.iload_n 3, 1) := by decide +kernel
theorem dX4_kind_59 : decode cX4_kind 59 = .ok (.invokestatic 188, 3) := by decide +kernel
theorem dX4_kind_62 : decode cX4_kind 62 = .ok (.if_icmp .ge 7, 3) := by decide +kernel
theorem dX4_kind_65 : decode cX4_kind 65 = .ok (.iload 5, 2) := by decide +kernel
theorem dX4_kind_67 : decode cX4_kind 67 = .ok (.istore 4, 2) := by decide +kernel
theorem dX4_kind_69 : decode cX4_kind 69 = .ok (.iinc 5 1, 3) := by decide +kernel
theorem dX4_kind_72 : decode cX4_kind 72 = .ok (.goto (-31), 3) := by decide +kernel
theorem dX4_kind_75 : decode cX4_kind 75 = .ok (.iload 4, 2) := by decide +kernel
theorem dX4_kind_77 : decode cX4_kind 77 = .ok (.ireturn, 1) := by decide +kernel
theorem dX4_host_0 : decode cX4_host 0 = .ok (.aload_n 0, 1) := by decide +kernel
theorem dX4_host_1 : decode cX4_host 1 = .ok (.iload_n 1, 1) := by decide +kernel
theorem dX4_host_2 : decode cX4_host 2 = .ok (.invokevirtual 93, 3) := by decide +kernel
theorem dX4_host_5 : decode cX4_host 5 = .ok (.ifCond .ne 10, 3) := by decide +kernel
theorem dX4_host_8 : decode cX4_host 8 = .ok (.aload_n 0, 1) := by decide +kernel
theorem dX4_host_9 : decode cX4_host 9 = .ok (.ldc 56, 2) := by decide +kernel
theorem dX4_host_11 : decode cX4_host 11 = .ok (.invokevirtual 57, 3) := by decide +kernel
theorem dX4_host_14 : decode cX4_host 14 = .ok (.ireturn, 1) := by decide +kernel
theorem dX4_host_15 : decode cX4_host 15 = .ok (.aload_n 0, 1) := by decide +kernel
theorem dX4_host_16 : decode cX4_host 16 = .ok (.getfield 10, 3) := by decide +kernel
theorem dX4_host_19 : decode cX4_host 19 = .ok (.iload_n 1, 1) := by decide +kernel
theorem dX4_host_20 : decode cX4_host 20 = .ok (.invokevirtual 136, 3) := by decide +kernel
theorem dX4_host_23 : decode cX4_host 23 = .ok (.istore_n 2, 1) := by decide +kernel
theorem dX4_host_24 : decode cX4_host 24 = .ok (.iload_n 2, 1) := by decide +kernel
theorem dX4_host_25 : decode cX4_host 25 = .ok (.iconst (-1), 1) := by decide +kernel
theorem dX4_host_26 : decode cX4_host 26 = .ok (.if_icmp .ne 12, 3) := by decide +kernel
theorem dX4_host_29 : decode cX4_host 29 = .ok (.aload_n 0, 1) := by decide +kernel
theorem dX4_host_30 : decode cX4_host 30 = .ok (.ldc 184, 2) := by decide +kernel
theorem dX4_host_32 : decode cX4_host 32 = .ok (.invokevirtual 57, 3) := by decide +kernel
theorem dX4_host_35 : decode cX4_host 35 = .ok (.goto 4, 3) := by decide +kernel
theorem dX4_host_38 : decode cX4_host 38 = .ok (.iload_n 2, 1) := by decide +kernel
theorem dX4_host_39 : decode cX4_host 39 = .ok (.ireturn, 1) := by decide +kernel
theorem dX4_beds_0 : decode cX4_beds 0 = .ok (.iload_n 1, 1) := by decide +kernel
theorem dX4_beds_1 : decode cX4_beds 1 = .ok (.invokestatic 44, 3) := by decide +kernel
theorem dX4_beds_4 : decode cX4_beds 4 = .ok (.ifCond .eq 12, 3) := by decide +kernel
theorem dX4_beds_7 : decode cX4_beds 7 = .ok (.iload_n 2, 1) := by decide +kernel
theorem dX4_beds_8 : decode cX4_beds 8 = .ok (.bipush 20, 2) := by decide +kernel
theorem dX4_beds_10 : decode cX4_beds 10 = .ok (.invokestatic 52, 3) := by decide +kernel
theorem dX4_beds_13 : decode cX4_beds 13 = .ok (.ifCond .ne 10, 3) := by decide +kernel
theorem dX4_beds_16 : decode cX4_beds 16 = .ok (.aload_n 0, 1) := by decide +kernel
theorem dX4_beds_17 : decode cX4_beds 17 = .ok (.ldc 56, 2) := by decide +kernel
theorem dX4_beds_19 : decode cX4_beds 19 = .ok (.invokevirtual 57, 3) := by decide +kernel
theorem dX4_beds_22 : decode cX4_beds 22 = .ok (.ireturn, 1) := by decide +kernel
theorem dX4_beds_23 : decode cX4_beds 23 = .ok (.iconst 0, 1) := by decide +kernel
theorem dX4_beds_24 : decode cX4_beds 24 = .ok (.istore_n 3, 1) := by decide +kernel
theorem dX4_beds_25 : decode cX4_beds 25 = .ok (.iload_n 3, 1) := by decide +kernel
theorem dX4_beds_26 : decode cX4_beds 26 = .ok (.iconst 3, 1) := by decide +kernel
theorem dX4_beds_27 : decode cX4_beds 27 = .ok (.if_icmp .gt 51, 3) := by decide +kernel
theorem dX4_beds_30 : decode cX4_beds 30 = .ok (.aload_n 0, 1) := by decide +kernel
theorem dX4_beds_31 : decode cX4_beds 31 = .ok (.getfield 16, 3) := by decide +kernel
theorem dX4_beds_34 : decode cX4_beds 34 = .ok (.aload_n 0, 1) := by decide +kernel
theorem dX4_beds_35 : decode cX4_beds 35 = .ok (.getfield 10, 3) := by decide +kernel
theorem dX4_beds_38 : decode cX4_beds 38 = .ok (.invokevirtual 177, 3) := by decide +kernel
theorem dX4_beds_41 : decode cX4_beds 41 = .ok (.aload_n 0, 1) := by decide +kernel
theorem dX4_beds_42 : decode cX4_beds 42 = .ok (.getfield 16, 3) := by decide +kernel
theorem dX4_beds_45 : decode cX4_beds 45 = .ok (.getfield 60, 3) := by decide +kernel
theorem dX4_beds_48 : decode cX4_beds 48 = .ok (.iload_n 1, 1) := by decide +kernel
theorem dX4_beds_49 : decode cX4_beds 49 = .ok (.iload_n 3, 1) := by decide +kernel
theorem dX4_beds_50 : decode cX4_beds 50 = .ok (.iastore, 1) := by decide +kernel
theorem dX4_beds_51 : decode cX4_beds 51 = .ok (.aload_n 0, 1) := by decide +kernel
theorem dX4_beds_52 : decode cX4_beds 52 = .ok (.getfield 16, 3) := by decide +kernel
theorem dX4_beds_55 : decode cX4_beds 55 = .ok (.iload_n 2, 1) := by decide +kernel
theorem dX4_beds_56 : decode cX4_beds 56 = .ok (.invokevirtual 156, 3) := by decide +kernel
theorem dX4_beds_59 : decode cX4_beds 59 = .ok (.aload_n 0, 1) := by decide +kernel
theorem dX4_beds_60 : decode cX4_beds 60 = .ok (.getfield 16, 3) := by decide +kernel
theorem dX4_beds_63 : decode cX4_beds 63 = .ok (.iconst (-1), 1) := by decide +kernel
theorem dX4_beds_64 : decode cX4_beds 64 = .ok (.invokevirtual 69, 3) := by decide +kernel
theorem dX4_beds_67 : decode cX4_beds 67 = .ok (.ifCond .ne 5, 3) := by decide +kernel
theorem dX4_beds_70 : decode cX4_beds 70 = .ok (.iload_n 3, 1) := by decide +kernel
theorem dX4_beds_71 : decode cX4_beds 71 = .ok (.ireturn, 1) := by decide +kernel
theorem dX4_beds_72 : decode cX4_beds 72 = .ok (.iinc 3 1, 3) := by decide +kernel
theorem dX4_beds_75 : decode cX4_beds 75 = .ok (.goto (-50), 3) := by decide +kernel
theorem dX4_beds_78 : decode cX4_beds 78 = .ok (.aload_n 0, 1) := by decide +kernel
theorem dX4_beds_79 : decode cX4_beds 79 = .ok (.ldc 184, 2) := by decide +kernel
theorem dX4_beds_81 : decode cX4_beds 81 = .ok (.invokevirtual 57, 3) := by decide +kernel
theorem dX4_beds_84 : decode cX4_beds 84 = .ok (.ireturn, 1) := by decide +kernel
theorem dX4_feed_0 : decode cX4_feed 0 = .ok (.iload_n 2, 1) := by decide +kernel
theorem dX4_feed_1 : decode cX4_feed 1 = .ok (.iconst 1, 1) := by decide +kernel
theorem dX4_feed_2 : decode cX4_feed 2 = .ok (.if_icmp .lt 8, 3) := by decide +kernel
theorem dX4_feed_5 : decode cX4_feed 5 = .ok (.iload_n 2, 1) := by decide +kernel
theorem dX4_feed_6 : decode cX4_feed 6 = .ok (.iconst 4, 1) := by decide +kernel
theorem dX4_feed_7 : decode cX4_feed 7 = .ok (.if_icmp .le 10, 3) := by decide +kernel
theorem dX4_feed_10 : decode cX4_feed 10 = .ok (.aload_n 0, 1) := by decide +kernel
theorem dX4_feed_11 : decode cX4_feed 11 = .ok (.ldc 56, 2) := by decide +kernel
theorem dX4_feed_13 : decode cX4_feed 13 = .ok (.invokevirtual 57, 3) := by decide +kernel
theorem dX4_feed_16 : decode cX4_feed 16 = .ok (.ireturn, 1) := by decide +kernel
theorem dX4_feed_17 : decode cX4_feed 17 = .ok (.aload_n 0, 1) := by decide +kernel
theorem dX4_feed_18 : decode cX4_feed 18 = .ok (.getfield 29, 3) := by decide +kernel
theorem dX4_feed_21 : decode cX4_feed 21 = .ok (.getfield 191, 3) := by decide +kernel
theorem dX4_feed_24 : decode cX4_feed 24 = .ok (.iload_n 2, 1) := by decide +kernel
theorem dX4_feed_25 : decode cX4_feed 25 = .ok (.iadd, 1) := by decide +kernel
theorem dX4_feed_26 : decode cX4_feed 26 = .ok (.bipush 120, 2) := by decide +kernel
theorem dX4_feed_28 : decode cX4_feed 28 = .ok (.if_icmp .le 10, 3) := by decide +kernel
theorem dX4_feed_31 : decode cX4_feed 31 = .ok (.aload_n 0, 1) := by decide +kernel
theorem dX4_feed_32 : decode cX4_feed 32 = .ok (.ldc 88, 2) := by decide +kernel
theorem dX4_feed_34 : decode cX4_feed 34 = .ok (.invokevirtual 57, 3) := by decide +kernel
theorem dX4_feed_37 : decode cX4_feed 37 = .ok (.ireturn, 1) := by decide +kernel
theorem dX4_feed_38 : decode cX4_feed 38 = .ok (.iload_n 2, 1) := by decide +kernel
theorem dX4_feed_39 : decode cX4_feed 39 = .ok (.iconst 1, 1) := by decide +kernel
theorem dX4_feed_40 : decode cX4_feed 40 = .ok (.isub, 1) := by decide +kernel
theorem dX4_feed_41 : decode cX4_feed 41 = .ok (.istore_n 3, 1) := by decide +kernel
theorem dX4_feed_42 : decode cX4_feed 42 = .ok (.iload_n 3, 1) := by decide +kernel
theorem dX4_feed_43 : decode cX4_feed 43 = .ok (.ifCond .lt 26, 3) := by decide +kernel
theorem dX4_feed_46 : decode cX4_feed 46 = .ok (.aload_n 0, 1) := by decide +kernel
theorem dX4_feed_47 : decode cX4_feed 47 = .ok (.getfield 29, 3) := by decide +kernel
theorem dX4_feed_50 : decode cX4_feed 50 = .ok (.iload_n 1, 1) := by decide +kernel
theorem dX4_feed_51 : decode cX4_feed 51 = .ok (.bipush 8, 2) := by decide +kernel
theorem dX4_feed_53 : decode cX4_feed 53 = .ok (.iload_n 3, 1) := by decide +kernel
theorem dX4_feed_54 : decode cX4_feed 54 = .ok (.imul, 1) := by decide +kernel
theorem dX4_feed_55 : decode cX4_feed 55 = .ok (.iushr, 1) := by decide +kernel
theorem dX4_feed_56 : decode cX4_feed 56 = .ok (.sipush 255, 3) := by decide +kernel
theorem dX4_feed_59 : decode cX4_feed 59 = .ok (.iand, 1) := by decide +kernel
theorem dX4_feed_60 : decode cX4_feed 60 = .ok (.invokevirtual 194, 3) := by decide +kernel
theorem dX4_feed_63 : decode cX4_feed 63 = .ok (.iinc 3 (-1), 3) := by decide +kernel
theorem dX4_feed_66 : decode cX4_feed 66 = .ok (.goto (-24), 3) := by decide +kernel
theorem dX4_feed_69 : decode cX4_feed 69 = .ok (.aload_n 0, 1) := by decide +kernel
theorem dX4_feed_70 : decode cX4_feed 70 = .ok (.getfield 29, 3) := by decide +kernel
theorem dX4_feed_73 : decode cX4_feed 73 = .ok (.getfield 191, 3) := by decide +kernel
theorem dX4_feed_76 : decode cX4_feed 76 = .ok (.ireturn, 1) := by decide +kernel
theorem dX4_wipe_0 : decode cX4_wipe 0 = .ok (.aload_n 0, 1) := by decide +kernel
theorem dX4_wipe_1 : decode cX4_wipe 1 = .ok (.getfield 29, 3) := by decide +kernel
theorem dX4_wipe_4 : decode cX4_wipe 4 = .ok (.getfield 191, 3) := by decide +kernel
theorem dX4_wipe_7 : decode cX4_wipe 7 = .ok (.istore_n 1, 1) := by decide +kernel
theorem dX4_wipe_8 : decode cX4_wipe 8 = .ok (.aload_n 0, 1) := by decide +kernel
theorem dX4_wipe_9 : decode cX4_wipe 9 = .ok (.getfield 29, 3) := by decide +kernel
theorem dX4_wipe_12 : decode cX4_wipe 12 = .ok (.iconst 0, 1) := by decide +kernel
theorem dX4_wipe_13 : decode cX4_wipe 13 = .ok (.putfield 191, 3) := by decide +kernel
theorem dX4_wipe_16 : decode cX4_wipe 16 = .ok (.iload_n 1, 1) := by decide +kernel
theorem dX4_wipe_17 : decode cX4_wipe 17 = .ok (.ireturn, 1) := by decide +kernel
theorem dX4_town_0 : decode cX4_town 0 = .ok (.aload_n 0, 1) := by decide +kernel
theorem dX4_town_1 : decode cX4_town 1 = .ok (.getfield 16, 3) := by decide +kernel
theorem dX4_town_4 : decode cX4_town 4 = .ok (.aload_n 0, 1) := by decide +kernel
theorem dX4_town_5 : decode cX4_town 5 = .ok (.getfield 10, 3) := by decide +kernel
theorem dX4_town_8 : decode cX4_town 8 = .ok (.invokevirtual 177, 3) := by decide +kernel
theorem dX4_town_11 : decode cX4_town 11 = .ok (.aload_n 0, 1) := by decide +kernel
theorem dX4_town_12 : decode cX4_town 12 = .ok (.getfield 29, 3) := by decide +kernel
theorem dX4_town_15 : decode cX4_town 15 = .ok (.aload_n 0, 1) := by decide +kernel
theorem dX4_town_16 : decode cX4_town 16 = .ok (.getfield 16, 3) := by decide +kernel
theorem dX4_town_19 : decode cX4_town 19 = .ok (.invokevirtual 197, 3) := by decide +kernel
theorem dX4_town_22 : decode cX4_town 22 = .ok (.istore_n 1, 1) := by decide +kernel
theorem dX4_town_23 : decode cX4_town 23 = .ok (.iload_n 1, 1) := by decide +kernel
theorem dX4_town_24 : decode cX4_town 24 = .ok (.ifCond .le 14, 3) := by decide +kernel
theorem dX4_town_27 : decode cX4_town 27 = .ok (.aload_n 0, 1) := by decide +kernel
theorem dX4_town_28 : decode cX4_town 28 = .ok (.getfield 10, 3) := by decide +kernel
theorem dX4_town_31 : decode cX4_town 31 = .ok (.aload_n 0, 1) := by decide +kernel
theorem dX4_town_32 : decode cX4_town 32 = .ok (.getfield 16, 3) := by decide +kernel
theorem dX4_town_35 : decode cX4_town 35 = .ok (.invokevirtual 177, 3) := by decide +kernel
theorem dX4_town_38 : decode cX4_town 38 = .ok (.aload_n 0, 1) := by decide +kernel
theorem dX4_town_39 : decode cX4_town 39 = .ok (.getfield 29, 3) := by decide +kernel
theorem dX4_town_42 : decode cX4_town 42 = .ok (.iconst 0, 1) := by decide +kernel
theorem dX4_town_43 : decode cX4_town 43 = .ok (.putfield 191, 3) := by decide +kernel
theorem dX4_town_46 : decode cX4_town 46 = .ok (.iload_n 1, 1) := by decide +kernel
theorem dX4_town_47 : decode cX4_town 47 = .ok (.ireturn, 1) := by decide +kernel
theorem dX4_sheet_0 : decode cX4_sheet 0 = .ok (.iload_n 1, 1) := by decide +kernel
theorem dX4_sheet_1 : decode cX4_sheet 1 = .ok (.invokestatic 201, 3) := by decide +kernel
theorem dX4_sheet_4 : decode cX4_sheet 4 = .ok (.ifCond .eq 25, 3) := by decide +kernel
theorem dX4_sheet_7 : decode cX4_sheet 7 = .ok (.iload_n 2, 1) := by decide +kernel
theorem dX4_sheet_8 : decode cX4_sheet 8 = .ok (.ifCond .eq 28, 3) := by decide +kernel
theorem dX4_sheet_11 : decode cX4_sheet 11 = .ok (.iload_n 2, 1) := by decide +kernel
theorem dX4_sheet_12 : decode cX4_sheet 12 = .ok (.bipush 8, 2) := by decide +kernel
theorem dX4_sheet_14 : decode cX4_sheet 14 = .ok (.if_icmp .eq 22, 3) := by decide +kernel
theorem dX4_sheet_17 : decode cX4_sheet 17 = .ok (.iload_n 2, 1) := by decide +kernel
theorem dX4_sheet_18 : decode cX4_sheet 18 = .ok (.bipush 16, 2) := by decide +kernel
theorem dX4_sheet_20 : decode cX4_sheet 20 = .ok (.if_icmp .eq 16, 3) := by decide +kernel
theorem dX4_sheet_23 : decode cX4_sheet 23 = .ok (.iload_n 2, 1) := by decide +kernel
theorem dX4_sheet_24 : decode cX4_sheet 24 = .ok (.bipush 64, 2) := by decide +kernel
theorem dX4_sheet_26 : decode cX4_sheet 26 = .ok (.if_icmp .eq 10, 3) := by decide +kernel
theorem dX4_sheet_29 : decode cX4_sheet 29 = .ok (.aload_n 0, 1) := by decide +kernel
theorem dX4_sheet_30 : decode cX4_sheet 30 = .ok (.ldc 56, 2) := by decide +kernel
theorem dX4_sheet_32 : decode cX4_sheet 32 = .ok (.invokevirtual 57, 3) := by decide +kernel
theorem dX4_sheet_35 : decode cX4_sheet 35 = .ok (.ireturn, 1) := by decide +kernel
theorem dX4_sheet_36 : decode cX4_sheet 36 = .ok (.iload_n 3, 1) := by decide +kernel
theorem dX4_sheet_37 : decode cX4_sheet 37 = .ok (.ifCond .ge 10, 3) := by decide +kernel
theorem dX4_sheet_40 : decode cX4_sheet 40 = .ok (.aload_n 0, 1) := by decide +kernel
theorem dX4_sheet_41 : decode cX4_sheet 41 = .ok (.ldc 204, 2) := by decide +kernel
theorem dX4_sheet_43 : decode cX4_sheet 43 = .ok (.invokevirtual 57, 3) := by decide +kernel
theorem dX4_sheet_46 : decode cX4_sheet 46 = .ok (.ireturn, 1) := by decide +kernel
theorem dX4_sheet_47 : decode cX4_sheet 47 = .ok (.iload_n 3, 1) := by decide +kernel
theorem dX4_sheet_48 : decode cX4_sheet 48 = .ok (.bipush 40, 2) := by decide +kernel
theorem dX4_sheet_50 : decode cX4_sheet 50 = .ok (.if_icmp .le 10, 3) := by decide +kernel
theorem dX4_sheet_53 : decode cX4_sheet 53 = .ok (.aload_n 0, 1) := by decide +kernel
theorem dX4_sheet_54 : decode cX4_sheet 54 = .ok (.ldc 56, 2) := by decide +kernel
theorem dX4_sheet_56 : decode cX4_sheet 56 = .ok (.invokevirtual 57, 3) := by decide +kernel
theorem dX4_sheet_59 : decode cX4_sheet 59 = .ok (.ireturn, 1) := by decide +kernel
theorem dX4_sheet_60 : decode cX4_sheet 60 = .ok (.aload_n 0, 1) := by decide +kernel
theorem dX4_sheet_61 : decode cX4_sheet 61 = .ok (.getfield 35, 3) := by decide +kernel
theorem dX4_sheet_64 : decode cX4_sheet 64 = .ok (.iload_n 1, 1) := by decide +kernel
theorem dX4_sheet_65 : decode cX4_sheet 65 = .ok (.aaload, 1) := by decide +kernel
theorem dX4_sheet_66 : decode cX4_sheet 66 = .ok (.iload_n 2, 1) := by decide +kernel
theorem dX4_sheet_67 : decode cX4_sheet 67 = .ok (.iload_n 3, 1) := by decide +kernel
theorem dX4_sheet_68 : decode cX4_sheet 68 = .ok (.invokevirtual 205, 3) := by decide +kernel
theorem dX4_sheet_71 : decode cX4_sheet 71 = .ok (.aload_n 0, 1) := by decide +kernel
theorem dX4_sheet_72 : decode cX4_sheet 72 = .ok (.getfield 35, 3) := by decide +kernel
theorem dX4_sheet_75 : decode cX4_sheet 75 = .ok (.iload_n 1, 1) := by decide +kernel
theorem dX4_sheet_76 : decode cX4_sheet 76 = .ok (.aaload, 1) := by decide +kernel
theorem dX4_sheet_77 : decode cX4_sheet 77 = .ok (.getfield 208, 3) := by decide +kernel
theorem dX4_sheet_80 : decode cX4_sheet 80 = .ok (.ireturn, 1) := by decide +kernel
theorem dX4_write_0 : decode cX4_write 0 = .ok (.iload_n 1, 1) := by decide +kernel
theorem dX4_write_1 : decode cX4_write 1 = .ok (.invokestatic 201, 3) := by decide +kernel
theorem dX4_write_4 : decode cX4_write 4 = .ok (.ifCond .ne 11, 3) := by decide +kernel
theorem dX4_write_7 : decode cX4_write 7 = .ok (.aload_n 0, 1) := by decide +kernel
theorem dX4_write_8 : decode cX4_write 8 = .ok (.ldc 56, 2) := by decide +kernel
theorem dX4_write_10 : decode cX4_write 10 = .ok (.invokevirtual 57, 3) := by decide +kernel
theorem dX4_write_13 : decode cX4_write 13 = .ok (.i2l, 1) := by decide +kernel
theorem dX4_write_14 : decode cX4_write 14 = .ok (.lreturn, 1) := by decide +kernel
theorem dX4_write_15 : decode cX4_write 15 = .ok (.aload_n 0, 1) := by decide +kernel
theorem dX4_write_16 : decode cX4_write 16 = .ok (.getfield 35, 3) := by decide +kernel
theorem dX4_write_19 : decode cX4_write 19 = .ok (.iload_n 1, 1) := by decide +kernel
theorem dX4_write_20 : decode cX4_write 20 = .ok (.aaload, 1) := by decide +kernel
theorem dX4_write_21 : decode cX4_write 21 = .ok (.astore 5, 2) := by decide +kernel
theorem dX4_write_23 : decode cX4_write 23 = .ok (.aload 5, 2) := by decide +kernel
theorem dX4_write_25 : decode cX4_write 25 = .ok (.invokevirtual 209, 3) := by decide +kernel
theorem dX4_write_28 : decode cX4_write 28 = .ok (.ifCond .eq 11, 3) := by decide +kernel
theorem dX4_write_31 : decode cX4_write 31 = .ok (.aload_n 0, 1) := by decide +kernel
theorem dX4_write_32 : decode cX4_write 32 = .ok (.ldc 212, 2) := by decide +kernel
theorem dX4_write_34 : decode cX4_write 34 = .ok (.invokevirtual 57, 3) := by decide +kernel
theorem dX4_write_37 : decode cX4_write 37 = .ok (.i2l, 1) := by decide +kernel
theorem dX4_write_38 : decode cX4_write 38 = .ok (.lreturn, 1) := by decide +kernel
theorem dX4_write_39 : decode cX4_write 39 = .ok (.iload_n 2, 1) := by decide +kernel
theorem dX4_write_40 : decode cX4_write 40 = .ok (.ifCond .lt 12, 3) := by decide +kernel
theorem dX4_write_43 : decode cX4_write 43 = .ok (.iload_n 2, 1) := by decide +kernel
theorem dX4_write_44 : decode cX4_write 44 = .ok (.aload 5, 2) := by decide +kernel
theorem dX4_write_46 : decode cX4_write 46 = .ok (.getfield 208, 3) := by decide +kernel
theorem dX4_write_49 : decode cX4_write 49 = .ok (.if_icmp .lt 11, 3) := by decide +kernel
theorem dX4_write_52 : decode cX4_write 52 = .ok (.aload_n 0, 1) := by decide +kernel
theorem dX4_write_53 : decode cX4_write 53 = .ok (.ldc 56, 2) := by decide +kernel
theorem dX4_write_55 : decode cX4_write 55 = .ok (.invokevirtual 57, 3) := by decide +kernel
theorem dX4_write_58 : decode cX4_write 58 = .ok (.i2l, 1) := by decide +kernel
theorem dX4_write_59 : decode cX4_write 59 = .ok (.lreturn, 1) := by decide +kernel
theorem dX4_write_60 : decode cX4_write 60 = .ok (.aload 5, 2) := by decide +kernel
theorem dX4_write_62 : decode cX4_write 62 = .ok (.getfield 213, 3) := by decide +kernel
theorem dX4_write_65 : decode cX4_write 65 = .ok (.iload_n 2, 1) := by decide +kernel
theorem dX4_write_66 : decode cX4_write 66 = .ok (.laload, 1) := by decide +kernel
theorem dX4_write_67 : decode cX4_write 67 = .ok (.lstore 6, 2) := by decide +kernel
theorem dX4_write_69 : decode cX4_write 69 = .ok (.aload 5, 2) := by decide +kernel
theorem dX4_write_71 : decode cX4_write 71 = .ok (.iload_n 2, 1) := by decide +kernel
theorem dX4_write_72 : decode cX4_write 72 = .ok (.lload_n 3, 1) := by decide +kernel
theorem dX4_write_73 : decode cX4_write 73 = .ok (.invokevirtual 217, 3) := by decide +kernel
theorem dX4_write_76 : decode cX4_write 76 = .ok (.lload 6, 2) := by decide +kernel
theorem dX4_write_78 : decode cX4_write 78 = .ok (.lreturn, 1) := by decide +kernel
theorem dX4_copy_0 : decode cX4_copy 0 = .ok (.iload_n 1, 1) := by decide +kernel
theorem dX4_copy_1 : decode cX4_copy 1 = .ok (.invokestatic 201, 3) := by decide +kernel
theorem dX4_copy_4 : decode cX4_copy 4 = .ok (.ifCond .eq 10, 3) := by decide +kernel
theorem dX4_copy_7 : decode cX4_copy 7 = .ok (.iload_n 3, 1) := by decide +kernel
theorem dX4_copy_8 : decode cX4_copy 8 = .ok (.invokestatic 201, 3) := by decide +kernel
theorem dX4_copy_11 : decode cX4_copy 11 = .ok (.ifCond .ne 10, 3) := by decide +kernel
theorem dX4_copy_14 : decode cX4_copy 14 = .ok (.aload_n 0, 1) := by decide +kernel
theorem dX4_copy_15 : decode cX4_copy 15 = .ok (.ldc 56, 2) := by decide +kernel
theorem dX4_copy_17 : decode cX4_copy 17 = .ok (.invokevirtual 57, 3) := by decide +kernel
theorem dX4_copy_20 : decode cX4_copy 20 = .ok (.ireturn, 1) := by decide +kernel
theorem dX4_copy_21 : decode cX4_copy 21 = .ok (.aload_n 0, 1) := by decide +kernel
theorem dX4_copy_22 : decode cX4_copy 22 = .ok (.getfield 35, 3) := by decide +kernel
theorem dX4_copy_25 : decode cX4_copy 25 = .ok (.iload_n 1, 1) := by decide +kernel
theorem dX4_copy_26 : decode cX4_copy 26 = .ok (.aaload, 1) := by decide +kernel
theorem dX4_copy_27 : decode cX4_copy 27 = .ok (.astore 6, 2) := by decide +kernel
theorem dX4_copy_29 : decode cX4_copy 29 = .ok (.aload_n 0, 1) := by decide +kernel
theorem dX4_copy_30 : decode cX4_copy 30 = .ok (.getfield 35, 3) := by decide +kernel
theorem dX4_copy_33 : decode cX4_copy 33 = .ok (.iload_n 3, 1) := by decide +kernel
theorem dX4_copy_34 : decode cX4_copy 34 = .ok (.aaload, 1) := by decide +kernel
theorem dX4_copy_35 : decode cX4_copy 35 = .ok (.astore 7, 2) := by decide +kernel
theorem dX4_copy_37 : decode cX4_copy 37 = .ok (.aload 6, 2) := by decide +kernel
theorem dX4_copy_39 : decode cX4_copy 39 = .ok (.invokevirtual 209, 3) := by decide +kernel
theorem dX4_copy_42 : decode cX4_copy 42 = .ok (.ifCond .ne 11, 3) := by decide +kernel
theorem dX4_copy_45 : decode cX4_copy 45 = .ok (.aload 7, 2) := by decide +kernel
theorem dX4_copy_47 : decode cX4_copy 47 = .ok (.invokevirtual 209, 3) := by decide +kernel
theorem dX4_copy_50 : decode cX4_copy 50 = .ok (.ifCond .eq 10, 3) := by decide +kernel
theorem dX4_copy_53 : decode cX4_copy 53 = .ok (.aload_n 0, 1) := by decide +kernel
theorem dX4_copy_54 : decode cX4_copy 54 = .ok (.ldc 212, 2) := by decide +kernel
theorem dX4_copy_56 : decode cX4_copy 56 = .ok (.invokevirtual 57, 3) := by decide +kernel
theorem dX4_copy_59 : decode cX4_copy 59 = .ok (.ireturn, 1) := by decide +kernel
theorem dX4_copy_60 : decode cX4_copy 60 = .ok (.aload 6, 2) := by decide +kernel
theorem dX4_copy_62 : decode cX4_copy 62 = .ok (.getfield 221, 3) := by decide +kernel
theorem dX4_copy_65 : decode cX4_copy 65 = .ok (.aload 7, 2) := by decide +kernel
theorem dX4_copy_67 : decode cX4_copy 67 = .ok (.getfield 221, 3) := by decide +kernel
theorem dX4_copy_70 : decode cX4_copy 70 = .ok (.if_icmp .eq 10, 3) := by decide +kernel
theorem dX4_copy_73 : decode cX4_copy 73 = .ok (.aload_n 0, 1) := by decide +kernel
theorem dX4_copy_74 : decode cX4_copy 74 = .ok (.ldc 128, 2) := by decide +kernel
theorem dX4_copy_76 : decode cX4_copy 76 = .ok (.invokevirtual 57, 3) := by decide +kernel
theorem dX4_copy_79 : decode cX4_copy 79 = .ok (.ireturn, 1) := by decide +kernel
theorem dX4_copy_80 : decode cX4_copy 80 = .ok (.aload 6, 2) := by decide +kernel
theorem dX4_copy_82 : decode cX4_copy 82 = .ok (.iload_n 2, 1) := by decide +kernel
theorem dX4_copy_83 : decode cX4_copy 83 = .ok (.iload 5, 2) := by decide +kernel
theorem dX4_copy_85 : decode cX4_copy 85 = .ok (.invokevirtual 224, 3) := by decide +kernel
theorem dX4_copy_88 : decode cX4_copy 88 = .ok (.ifCond .eq 15, 3) := by decide +kernel
theorem dX4_copy_91 : decode cX4_copy 91 = .ok (.aload 7, 2) := by decide +kernel
theorem dX4_copy_93 : decode cX4_copy 93 = .ok (.iload 4, 2) := by decide +kernel
theorem dX4_copy_95 : decode cX4_copy 95 = .ok (.iload 5, 2) := by decide +kernel
theorem dX4_copy_97 : decode cX4_copy 97 = .ok (.invokevirtual 224, 3) := by decide +kernel
theorem dX4_copy_100 : decode cX4_copy 100 = .ok (.ifCond .ne 10, 3) := by decide +kernel
theorem dX4_copy_103 : decode cX4_copy 103 = .ok (.aload_n 0, 1) := by decide +kernel
theorem dX4_copy_104 : decode cX4_copy 104 = .ok (.ldc 56, 2) := by decide +kernel
theorem dX4_copy_106 : decode cX4_copy 106 = .ok (.invokevirtual 57, 3) := by decide +kernel
theorem dX4_copy_109 : decode cX4_copy 109 = .ok (.ireturn, 1) := by decide +kernel
theorem dX4_copy_110 : decode cX4_copy 110 = .ok (.aload 6, 2) := by decide +kernel
theorem dX4_copy_112 : decode cX4_copy 112 = .ok (.getfield 213, 3) := by decide +kernel
theorem dX4_copy_115 : decode cX4_copy 115 = .ok (.iload_n 2, 1) := by decide +kernel
theorem dX4_copy_116 : decode cX4_copy 116 = .ok (.aload 7, 2) := by decide +kernel
theorem dX4_copy_118 : decode cX4_copy 118 = .ok (.getfield 213, 3) := by decide +kernel
theorem dX4_copy_121 : decode cX4_copy 121 = .ok (.iload 4, 2) := by decide +kernel
theorem dX4_copy_123 : decode cX4_copy 123 = .ok (.iload 5, 2) := by decide +kernel
theorem dX4_copy_125 : decode cX4_copy 125 = .ok (.invokestatic 227, 3) := by decide +kernel
theorem dX4_copy_128 : decode cX4_copy 128 = .ok (.iload 5, 2) := by decide +kernel
theorem dX4_copy_130 : decode cX4_copy 130 = .ok (.ireturn, 1) := by decide +kernel
theorem dX4_lays_0 : decode cX4_lays 0 = .ok (.iload_n 1, 1) := by decide +kernel
theorem dX4_lays_1 : decode cX4_lays 1 = .ok (.invokestatic 201, 3) := by decide +kernel
theorem dX4_lays_4 : decode cX4_lays 4 = .ok (.ifCond .ne 10, 3) := by decide +kernel
theorem dX4_lays_7 : decode cX4_lays 7 = .ok (.aload_n 0, 1) := by decide +kernel
theorem dX4_lays_8 : decode cX4_lays 8 = .ok (.ldc 56, 2) := by decide +kernel
theorem dX4_lays_10 : decode cX4_lays 10 = .ok (.invokevirtual 57, 3) := by decide +kernel
theorem dX4_lays_13 : decode cX4_lays 13 = .ok (.ireturn, 1) := by decide +kernel
theorem dX4_lays_14 : decode cX4_lays 14 = .ok (.aload_n 0, 1) := by decide +kernel
theorem dX4_lays_15 : decode cX4_lays 15 = .ok (.getfield 35, 3) := by decide +kernel
theorem dX4_lays_18 : decode cX4_lays 18 = .ok (.iload_n 1, 1) := by decide +kernel
theorem dX4_lays_19 : decode cX4_lays 19 = .ok (.aaload, 1) := by decide +kernel
theorem dX4_lays_20 : decode cX4_lays 20 = .ok (.astore_n 2, 1) := by decide +kernel
theorem dX4_lays_21 : decode cX4_lays 21 = .ok (.aload_n 2, 1) := by decide +kernel
theorem dX4_lays_22 : decode cX4_lays 22 = .ok (.invokevirtual 209, 3) := by decide +kernel
theorem dX4_lays_25 : decode cX4_lays 25 = .ok (.ifCond .eq 10, 3) := by decide +kernel
theorem dX4_lays_28 : decode cX4_lays 28 = .ok (.aload_n 0, 1) := by decide +kernel
theorem dX4_lays_29 : decode cX4_lays 29 = .ok (.ldc 212, 2) := by decide +kernel
theorem dX4_lays_31 : decode cX4_lays 31 = .ok (.invokevirtual 57, 3) := by decide +kernel
theorem dX4_lays_34 : decode cX4_lays 34 = .ok (.ireturn, 1) := by decide +kernel
theorem dX4_lays_35 : decode cX4_lays 35 = .ok (.iconst 0, 1) := by decide +kernel
theorem dX4_lays_36 : decode cX4_lays 36 = .ok (.istore_n 3, 1) := by decide +kernel
theorem dX4_lays_37 : decode cX4_lays 37 = .ok (.iconst 0, 1) := by decide +kernel
theorem dX4_lays_38 : decode cX4_lays 38 = .ok (.istore 4, 2) := by decide +kernel
theorem dX4_lays_40 : decode cX4_lays 40 = .ok (.iload 4, 2) := by decide +kernel
theorem dX4_lays_42 : decode cX4_lays 42 = .ok (.aload_n 2, 1) := by decide +kernel
theorem dX4_lays_43 : decode cX4_lays 43 = .ok (.getfield 208, 3) := by decide +kernel
theorem dX4_lays_46 : decode cX4_lays 46 = .ok (.if_icmp .ge 57, 3) := by decide +kernel
theorem dX4_lays_49 : decode cX4_lays 49 = .ok (.iload 4, 2) := by decide +kernel
theorem dX4_lays_51 : decode cX4_lays 51 = .ok (.bipush 8, 2) := by decide +kernel
theorem dX4_lays_53 : decode cX4_lays 53 = .ok (.if_icmp .ge 50, 3) := by decide +kernel
theorem dX4_lays_56 : decode cX4_lays 56 = .ok (.aload_n 2, 1) := by decide +kernel
theorem dX4_lays_57 : decode cX4_lays 57 = .ok (.getfield 213, 3) := by decide +kernel
theorem dX4_lays_60 : decode cX4_lays 60 = .ok (.iload 4, 2) := by decide +kernel
theorem dX4_lays_62 : decode cX4_lays 62 = .ok (.laload, 1) := by decide +kernel
theorem dX4_lays_63 : decode cX4_lays 63 = .ok (.lstore 5, 2) := by decide +kernel
theorem dX4_lays_65 : decode cX4_lays 65 = .ok (.lload 5, 2) := by decide +kernel
theorem dX4_lays_67 : decode cX4_lays 67 = .ok (.lconst 0, 1) := by decide +kernel
theorem dX4_lays_68 : decode cX4_lays 68 = .ok (.lcmp, 1) := by decide +kernel
theorem dX4_lays_69 : decode cX4_lays 69 = .ok (.ifCond .lt 28, 3) := by decide +kernel
theorem dX4_lays_72 : decode cX4_lays 72 = .ok (.lload 5, 2) := by decide +kernel
theorem dX4_lays_74 : decode cX4_lays 74 = .ok (.ldc2_w 233, 3) := by decide +kernel
theorem dX4_lays_77 : decode cX4_lays 77 = .ok (.lcmp, 1) := by decide +kernel
theorem dX4_lays_78 : decode cX4_lays 78 = .ok (.ifCond .gt 19, 3) := by decide +kernel
theorem dX4_lays_81 : decode cX4_lays 81 = .ok (.aload_n 0, 1) := by decide +kernel
theorem dX4_lays_82 : decode cX4_lays 82 = .ok (.getfield 10, 3) := by decide +kernel
theorem dX4_lays_85 : decode cX4_lays 85 = .ok (.getfield 66, 3) := by decide +kernel
theorem dX4_lays_88 : decode cX4_lays 88 = .ok (.iload 4, 2) := by decide +kernel
theorem dX4_lays_90 : decode cX4_lays 90 = .ok (.lload 5, 2) := by decide +kernel
theorem dX4_lays_92 : decode cX4_lays 92 = .ok (.l2i, 1) := by decide +kernel
theorem dX4_lays_93 : decode cX4_lays 93 = .ok (.iastore, 1) := by decide +kernel
theorem dX4_lays_94 : decode cX4_lays 94 = .ok (.iinc 3 1, 3) := by decide +kernel
theorem dX4_lays_97 : decode cX4_lays 97 = .ok (.iinc 4 1, 3) := by decide +kernel
theorem dX4_lays_100 : decode cX4_lays 100 = .ok (.goto (-60), 3) := by decide +kernel
theorem dX4_lays_103 : decode cX4_lays 103 = .ok (.iload_n 3, 1) := by decide +kernel
theorem dX4_lays_104 : decode cX4_lays 104 = .ok (.ireturn, 1) := by decide +kernel
theorem dX4_book_0 : decode cX4_book 0 = .ok (.aload_n 0, 1) := by decide +kernel
theorem dX4_book_1 : decode cX4_book 1 = .ok (.iload_n 1, 1) := by decide +kernel
theorem dX4_book_2 : decode cX4_book 2 = .ok (.iload_n 2, 1) := by decide +kernel
theorem dX4_book_3 : decode cX4_book 3 = .ok (.invokevirtual 235, 3) := by decide +kernel
theorem dX4_book_6 : decode cX4_book 6 = .ok (.istore_n 3, 1) := by decide +kernel
theorem dX4_book_7 : decode cX4_book 7 = .ok (.iload_n 3, 1) := by decide +kernel
theorem dX4_book_8 : decode cX4_book 8 = .ok (.ifCond .eq 9, 3) := by decide +kernel
theorem dX4_book_11 : decode cX4_book 11 = .ok (.aload_n 0, 1) := by decide +kernel
theorem dX4_book_12 : decode cX4_book 12 = .ok (.iload_n 3, 1) := by decide +kernel
theorem dX4_book_13 : decode cX4_book 13 = .ok (.invokevirtual 57, 3) := by decide +kernel
theorem dX4_book_16 : decode cX4_book 16 = .ok (.ireturn, 1) := by decide +kernel
theorem dX4_book_17 : decode cX4_book 17 = .ok (.aload_n 0, 1) := by decide +kernel
theorem dX4_book_18 : decode cX4_book 18 = .ok (.getfield 35, 3) := by decide +kernel
theorem dX4_book_21 : decode cX4_book 21 = .ok (.iload_n 1, 1) := by decide +kernel
theorem dX4_book_22 : decode cX4_book 22 = .ok (.aaload, 1) := by decide +kernel
theorem dX4_book_23 : decode cX4_book 23 = .ok (.astore 4, 2) := by decide +kernel
theorem dX4_book_25 : decode cX4_book 25 = .ok (.aload_n 0, 1) := by decide +kernel
theorem dX4_book_26 : decode cX4_book 26 = .ok (.getfield 16, 3) := by decide +kernel
theorem dX4_book_29 : decode cX4_book 29 = .ok (.aload_n 0, 1) := by decide +kernel
theorem dX4_book_30 : decode cX4_book 30 = .ok (.getfield 10, 3) := by decide +kernel
theorem dX4_book_33 : decode cX4_book 33 = .ok (.invokevirtual 177, 3) := by decide +kernel
theorem dX4_book_36 : decode cX4_book 36 = .ok (.iconst 0, 1) := by decide +kernel
theorem dX4_book_37 : decode cX4_book 37 = .ok (.istore 5, 2) := by decide +kernel
theorem dX4_book_39 : decode cX4_book 39 = .ok (.iload 5, 2) := by decide +kernel
theorem dX4_book_41 : decode cX4_book 41 = .ok (.aload 4, 2) := by decide +kernel
theorem dX4_book_43 : decode cX4_book 43 = .ok (.getfield 208, 3) := by decide +kernel
theorem dX4_book_46 : decode cX4_book 46 = .ok (.if_icmp .ge 33, 3) := by decide +kernel
theorem dX4_book_49 : decode cX4_book 49 = .ok (.aload 4, 2) := by decide +kernel
theorem dX4_book_51 : decode cX4_book 51 = .ok (.iload 5, 2) := by decide +kernel
theorem dX4_book_53 : decode cX4_book 53 = .ok (.aload_n 0, 1) := by decide +kernel
theorem dX4_book_54 : decode cX4_book 54 = .ok (.getfield 16, 3) := by decide +kernel
theorem dX4_book_57 : decode cX4_book 57 = .ok (.getfield 63, 3) := by decide +kernel
theorem dX4_book_60 : decode cX4_book 60 = .ok (.iload_n 2, 1) := by decide +kernel
theorem dX4_book_61 : decode cX4_book 61 = .ok (.iaload, 1) := by decide +kernel
theorem dX4_book_62 : decode cX4_book 62 = .ok (.i2l, 1) := by decide +kernel
theorem dX4_book_63 : decode cX4_book 63 = .ok (.invokevirtual 217, 3) := by decide +kernel
theorem dX4_book_66 : decode cX4_book 66 = .ok (.aload_n 0, 1) := by decide +kernel
theorem dX4_book_67 : decode cX4_book 67 = .ok (.getfield 16, 3) := by decide +kernel
theorem dX4_book_70 : decode cX4_book 70 = .ok (.invokevirtual 181, 3) := by decide +kernel
theorem dX4_book_73 : decode cX4_book 73 = .ok (.iinc 5 1, 3) := by decide +kernel
theorem dX4_book_76 : decode cX4_book 76 = .ok (.goto (-37), 3) := by decide +kernel
theorem dX4_book_79 : decode cX4_book 79 = .ok (.aload 4, 2) := by decide +kernel
theorem dX4_book_81 : decode cX4_book 81 = .ok (.getfield 208, 3) := by decide +kernel
theorem dX4_book_84 : decode cX4_book 84 = .ok (.ireturn, 1) := by decide +kernel
theorem dX4_read_0 : decode cX4_read 0 = .ok (.aload_n 0, 1) := by decide +kernel
theorem dX4_read_1 : decode cX4_read 1 = .ok (.iload_n 1, 1) := by decide +kernel
theorem dX4_read_2 : decode cX4_read 2 = .ok (.iload_n 2, 1) := by decide +kernel
theorem dX4_read_3 : decode cX4_read 3 = .ok (.invokevirtual 235, 3) := by decide +kernel
theorem dX4_read_6 : decode cX4_read 6 = .ok (.istore_n 3, 1) := by decide +kernel
theorem dX4_read_7 : decode cX4_read 7 = .ok (.iload_n 3, 1) := by decide +kernel
theorem dX4_read_8 : decode cX4_read 8 = .ok (.ifCond .eq 9, 3) := by decide +kernel
theorem dX4_read_11 : decode cX4_read 11 = .ok (.aload_n 0, 1) := by decide +kernel
theorem dX4_read_12 : decode cX4_read 12 = .ok (.iload_n 3, 1) := by decide +kernel
theorem dX4_read_13 : decode cX4_read 13 = .ok (.invokevirtual 57, 3) := by decide +kernel
theorem dX4_read_16 : decode cX4_read 16 = .ok (.ireturn, 1) := by decide +kernel
theorem dX4_read_17 : decode cX4_read 17 = .ok (.iconst 0, 1) := by decide +kernel
theorem dX4_read_18 : decode cX4_read 18 = .ok (.istore 4, 2) := by decide +kernel
theorem dX4_read_20 : decode cX4_read 20 = .ok (.iconst 0, 1) := by decide +kernel
theorem dX4_read_21 : decode cX4_read 21 = .ok (.istore 5, 2) := by decide +kernel
theorem dX4_read_23 : decode cX4_read 23 = .ok (.iload 5, 2) := by decide +kernel
theorem dX4_read_25 : decode cX4_read 25 = .ok (.aload_n 0, 1) := by decide +kernel
theorem dX4_read_26 : decode cX4_read 26 = .ok (.getfield 10, 3) := by decide +kernel
theorem dX4_read_29 : decode cX4_read 29 = .ok (.getfield 160, 3) := by decide +kernel
theorem dX4_read_32 : decode cX4_read 32 = .ok (.if_icmp .ge 82, 3) := by decide +kernel
theorem dX4_read_35 : decode cX4_read 35 = .ok (.aload_n 0, 1) := by decide +kernel
theorem dX4_read_36 : decode cX4_read 36 = .ok (.getfield 10, 3) := by decide +kernel
theorem dX4_read_39 : decode cX4_read 39 = .ok (.getfield 108, 3) := by decide +kernel
theorem dX4_read_42 : decode cX4_read 42 = .ok (.iload 5, 2) := by decide +kernel
theorem dX4_read_44 : decode cX4_read 44 = .ok (.iaload, 1) := by decide +kernel
theorem dX4_read_45 : decode cX4_read 45 = .ok (.iload_n 2, 1) := by decide +kernel
theorem dX4_read_46 : decode cX4_read 46 = .ok (.if_icmp .eq 6, 3) := by decide +kernel
theorem dX4_read_49 : decode cX4_read 49 = .ok (.goto 59, 3) := by decide +kernel
theorem dX4_read_52 : decode cX4_read 52 = .ok (.iconst 0, 1) := by decide +kernel
theorem dX4_read_53 : decode cX4_read 53 = .ok (.istore 6, 2) := by decide +kernel
theorem dX4_read_55 : decode cX4_read 55 = .ok (.iload 6, 2) := by decide +kernel
theorem dX4_read_57 : decode cX4_read 57 = .ok (.bipush 6, 2) := by decide +kernel
theorem dX4_read_59 : decode cX4_read 59 = .ok (.if_icmp .ge 49, 3) := by decide +kernel
theorem dX4_read_62 : decode cX4_read 62 = .ok (.aload_n 0, 1) := by decide +kernel
theorem dX4_read_63 : decode cX4_read 63 = .ok (.getfield 16, 3) := by decide +kernel
theorem dX4_read_66 : decode cX4_read 66 = .ok (.aload_n 0, 1) := by decide +kernel
theorem dX4_read_67 : decode cX4_read 67 = .ok (.getfield 10, 3) := by decide +kernel
theorem dX4_read_70 : decode cX4_read 70 = .ok (.invokevirtual 177, 3) := by decide +kernel
theorem dX4_read_73 : decode cX4_read 73 = .ok (.aload_n 0, 1) := by decide +kernel
theorem dX4_read_74 : decode cX4_read 74 = .ok (.getfield 16, 3) := by decide +kernel
theorem dX4_read_77 : decode cX4_read 77 = .ok (.getfield 96, 3) := by decide +kernel
theorem dX4_read_80 : decode cX4_read 80 = .ok (.iload 5, 2) := by decide +kernel
theorem dX4_read_82 : decode cX4_read 82 = .ok (.iload 6, 2) := by decide +kernel
theorem dX4_read_84 : decode cX4_read 84 = .ok (.iastore, 1) := by decide +kernel
theorem dX4_read_85 : decode cX4_read 85 = .ok (.aload_n 0, 1) := by decide +kernel
theorem dX4_read_86 : decode cX4_read 86 = .ok (.aload_n 0, 1) := by decide +kernel
theorem dX4_read_87 : decode cX4_read 87 = .ok (.getfield 35, 3) := by decide +kernel
theorem dX4_read_90 : decode cX4_read 90 = .ok (.iload_n 1, 1) := by decide +kernel
theorem dX4_read_91 : decode cX4_read 91 = .ok (.aaload, 1) := by decide +kernel
theorem dX4_read_92 : decode cX4_read 92 = .ok (.iload_n 2, 1) := by decide +kernel
theorem dX4_read_93 : decode cX4_read 93 = .ok (.invokevirtual 239, 3) := by decide +kernel
theorem dX4_read_96 : decode cX4_read 96 = .ok (.ifCond .eq 6, 3) := by decide +kernel
theorem dX4_read_99 : decode cX4_read 99 = .ok (.iinc 4 1, 3) := by decide +kernel
theorem dX4_read_102 : decode cX4_read 102 = .ok (.iinc 6 1, 3) := by decide +kernel
theorem dX4_read_105 : decode cX4_read 105 = .ok (.goto (-50), 3) := by decide +kernel
theorem dX4_read_108 : decode cX4_read 108 = .ok (.iinc 5 1, 3) := by decide +kernel
theorem dX4_read_111 : decode cX4_read 111 = .ok (.goto (-88), 3) := by decide +kernel
theorem dX4_read_114 : decode cX4_read 114 = .ok (.iload 4, 2) := by decide +kernel
theorem dX4_read_116 : decode cX4_read 116 = .ok (.ireturn, 1) := by decide +kernel
theorem dX4_image_0 : decode cX4_image 0 = .ok (.aload_n 0, 1) := by decide +kernel
theorem dX4_image_1 : decode cX4_image 1 = .ok (.getfield 19, 3) := by decide +kernel
theorem dX4_image_4 : decode cX4_image 4 = .ok (.aload_n 0, 1) := by decide +kernel
theorem dX4_image_5 : decode cX4_image 5 = .ok (.getfield 10, 3) := by decide +kernel
theorem dX4_image_8 : decode cX4_image 8 = .ok (.invokevirtual 177, 3) := by decide +kernel
theorem dX4_image_11 : decode cX4_image 11 = .ok (.aload_n 0, 1) := by decide +kernel
theorem dX4_image_12 : decode cX4_image 12 = .ok (.iconst 1, 1) := by decide +kernel
theorem dX4_image_13 : decode cX4_image 13 = .ok (.putfield 22, 3) := by decide +kernel
theorem dX4_image_16 : decode cX4_image 16 = .ok (.iconst 1, 1) := by decide +kernel
theorem dX4_image_17 : decode cX4_image 17 = .ok (.ireturn, 1) := by decide +kernel
theorem dX4_undo_0 : decode cX4_undo 0 = .ok (.aload_n 0, 1) := by decide +kernel
theorem dX4_undo_1 : decode cX4_undo 1 = .ok (.getfield 22, 3) := by decide +kernel
theorem dX4_undo_4 : decode cX4_undo 4 = .ok (.ifCond .ne 10, 3) := by decide +kernel
theorem dX4_undo_7 : decode cX4_undo 7 = .ok (.aload_n 0, 1) := by decide +kernel
theorem dX4_undo_8 : decode cX4_undo 8 = .ok (.ldc 184, 2) := by decide +kernel
theorem dX4_undo_10 : decode cX4_undo 10 = .ok (.invokevirtual 57, 3) := by decide +kernel
theorem dX4_undo_13 : decode cX4_undo 13 = .ok (.ireturn, 1) := by decide +kernel
theorem dX4_undo_14 : decode cX4_undo 14 = .ok (.aload_n 0, 1) := by decide +kernel
theorem dX4_undo_15 : decode cX4_undo 15 = .ok (.getfield 10, 3) := by decide +kernel
theorem dX4_undo_18 : decode cX4_undo 18 = .ok (.aload_n 0, 1) := by decide +kernel
theorem dX4_undo_19 : decode cX4_undo 19 = .ok (.getfield 19, 3) := by decide +kernel
theorem dX4_undo_22 : decode cX4_undo 22 = .ok (.invokevirtual 177, 3) := by decide +kernel
theorem dX4_undo_25 : decode cX4_undo 25 = .ok (.aload_n 0, 1) := by decide +kernel
theorem dX4_undo_26 : decode cX4_undo 26 = .ok (.getfield 10, 3) := by decide +kernel
theorem dX4_undo_29 : decode cX4_undo 29 = .ok (.getfield 160, 3) := by decide +kernel
theorem dX4_undo_32 : decode cX4_undo 32 = .ok (.ireturn, 1) := by decide +kernel
theorem dX4_tear_0 : decode cX4_tear 0 = .ok (.aload_n 0, 1) := by decide +kernel
theorem dX4_tear_1 : decode cX4_tear 1 = .ok (.getfield 22, 3) := by decide +kernel
theorem dX4_tear_4 : decode cX4_tear 4 = .ok (.ifCond .eq 7, 3) := by decide +kernel
theorem dX4_tear_7 : decode cX4_tear 7 = .ok (.iconst 1, 1) := by decide +kernel
theorem dX4_tear_8 : decode cX4_tear 8 = .ok (.goto 4, 3) := by decide +kernel
theorem dX4_tear_11 : decode cX4_tear 11 = .ok (.iconst 0, 1) := by decide +kernel
theorem dX4_tear_12 : decode cX4_tear 12 = .ok (.istore_n 1, 1) := by decide +kernel
theorem dX4_tear_13 : decode cX4_tear 13 = .ok (.aload_n 0, 1) := by decide +kernel
theorem dX4_tear_14 : decode cX4_tear 14 = .ok (.iconst 0, 1) := by decide +kernel
theorem dX4_tear_15 : decode cX4_tear 15 = .ok (.putfield 22, 3) := by decide +kernel
theorem dX4_tear_18 : decode cX4_tear 18 = .ok (.iload_n 1, 1) := by decide +kernel
theorem dX4_tear_19 : decode cX4_tear 19 = .ok (.ireturn, 1) := by decide +kernel
theorem dX4_count_0 : decode cX4_count 0 = .ok (.iload_n 1, 1) := by decide +kernel
theorem dX4_count_1 : decode cX4_count 1 = .ok (.tableswitch 69 0 3 #[31, 39, 47, 58], 31) := by decide +kernel
theorem dX4_count_32 : decode cX4_count 32 = .ok (.aload_n 0, 1) := by decide +kernel
theorem dX4_count_33 : decode cX4_count 33 = .ok (.getfield 10, 3) := by decide +kernel
theorem dX4_count_36 : decode cX4_count 36 = .ok (.getfield 160, 3) := by decide +kernel
theorem dX4_count_39 : decode cX4_count 39 = .ok (.ireturn, 1) := by decide +kernel
theorem dX4_count_40 : decode cX4_count 40 = .ok (.aload_n 0, 1) := by decide +kernel
theorem dX4_count_41 : decode cX4_count 41 = .ok (.getfield 29, 3) := by decide +kernel
theorem dX4_count_44 : decode cX4_count 44 = .ok (.getfield 191, 3) := by decide +kernel
theorem dX4_count_47 : decode cX4_count 47 = .ok (.ireturn, 1) := by decide +kernel
theorem dX4_count_48 : decode cX4_count 48 = .ok (.aload_n 0, 1) := by decide +kernel
theorem dX4_count_49 : decode cX4_count 49 = .ok (.getfield 10, 3) := by decide +kernel
theorem dX4_count_52 : decode cX4_count 52 = .ok (.getfield 243, 3) := by decide +kernel
theorem dX4_count_55 : decode cX4_count 55 = .ok (.invokestatic 167, 3) := by decide +kernel
theorem dX4_count_58 : decode cX4_count 58 = .ok (.ireturn, 1) := by decide +kernel
theorem dX4_count_59 : decode cX4_count 59 = .ok (.aload_n 0, 1) := by decide +kernel
theorem dX4_count_60 : decode cX4_count 60 = .ok (.getfield 10, 3) := by decide +kernel
theorem dX4_count_63 : decode cX4_count 63 = .ok (.getfield 60, 3) := by decide +kernel
theorem dX4_count_66 : decode cX4_count 66 = .ok (.invokestatic 167, 3) := by decide +kernel
theorem dX4_count_69 : decode cX4_count 69 = .ok (.ireturn, 1) := by decide +kernel
theorem dX4_count_70 : decode cX4_count 70 = .ok (.aload_n 0, 1) := by decide +kernel
theorem dX4_count_71 : decode cX4_count 71 = .ok (.ldc 56, 2) := by decide +kernel
theorem dX4_count_73 : decode cX4_count 73 = .ok (.invokevirtual 57, 3) := by decide +kernel
theorem dX4_count_76 : decode cX4_count 76 = .ok (.ireturn, 1) := by decide +kernel
theorem dX4_status_0 : decode cX4_status 0 = .ok (.iload_n 1, 1) := by decide +kernel
theorem dX4_status_1 : decode cX4_status 1 = .ok (.iconst (-1), 1) := by decide +kernel
theorem dX4_status_2 : decode cX4_status 2 = .ok (.if_icmp .ne 11, 3) := by decide +kernel
theorem dX4_status_5 : decode cX4_status 5 = .ok (.aload_n 0, 1) := by decide +kernel
theorem dX4_status_6 : decode cX4_status 6 = .ok (.getfield 39, 3) := by decide +kernel
theorem dX4_status_9 : decode cX4_status 9 = .ok (.invokestatic 167, 3) := by decide +kernel
theorem dX4_status_12 : decode cX4_status 12 = .ok (.ireturn, 1) := by decide +kernel
theorem dX4_status_13 : decode cX4_status 13 = .ok (.iload_n 1, 1) := by decide +kernel
theorem dX4_status_14 : decode cX4_status 14 = .ok (.ifCond .lt 9, 3) := by decide +kernel
theorem dX4_status_17 : decode cX4_status 17 = .ok (.iload_n 1, 1) := by decide +kernel
theorem dX4_status_18 : decode cX4_status 18 = .ok (.bipush 7, 2) := by decide +kernel
theorem dX4_status_20 : decode cX4_status 20 = .ok (.if_icmp .lt 10, 3) := by decide +kernel
theorem dX4_status_23 : decode cX4_status 23 = .ok (.aload_n 0, 1) := by decide +kernel
theorem dX4_status_24 : decode cX4_status 24 = .ok (.ldc 56, 2) := by decide +kernel
theorem dX4_status_26 : decode cX4_status 26 = .ok (.invokevirtual 57, 3) := by decide +kernel
theorem dX4_status_29 : decode cX4_status 29 = .ok (.ireturn, 1) := by decide +kernel
theorem dX4_status_30 : decode cX4_status 30 = .ok (.aload_n 0, 1) := by decide +kernel
theorem dX4_status_31 : decode cX4_status 31 = .ok (.getfield 39, 3) := by decide +kernel
theorem dX4_status_34 : decode cX4_status 34 = .ok (.iload_n 1, 1) := by decide +kernel
theorem dX4_status_35 : decode cX4_status 35 = .ok (.iaload, 1) := by decide +kernel
theorem dX4_status_36 : decode cX4_status 36 = .ok (.ireturn, 1) := by decide +kernel
theorem dX4_finding_0 : decode cX4_finding 0 = .ok (.ldc 56, 2) := by decide +kernel
theorem dX4_finding_2 : decode cX4_finding 2 = .ok (.iload_n 1, 1) := by decide +kernel
theorem dX4_finding_3 : decode cX4_finding 3 = .ok (.isub, 1) := by decide +kernel
theorem dX4_finding_4 : decode cX4_finding 4 = .ok (.istore_n 2, 1) := by decide +kernel
theorem dX4_finding_5 : decode cX4_finding 5 = .ok (.iload_n 2, 1) := by decide +kernel
theorem dX4_finding_6 : decode cX4_finding 6 = .ok (.ifCond .lt 19, 3) := by decide +kernel
theorem dX4_finding_9 : decode cX4_finding 9 = .ok (.iload_n 2, 1) := by decide +kernel
theorem dX4_finding_10 : decode cX4_finding 10 = .ok (.bipush 7, 2) := by decide +kernel
theorem dX4_finding_12 : decode cX4_finding 12 = .ok (.if_icmp .ge 13, 3) := by decide +kernel
theorem dX4_finding_15 : decode cX4_finding 15 = .ok (.aload_n 0, 1) := by decide +kernel
theorem dX4_finding_16 : decode cX4_finding 16 = .ok (.getfield 39, 3) := by decide +kernel
theorem dX4_finding_19 : decode cX4_finding 19 = .ok (.iload_n 2, 1) := by decide +kernel
theorem dX4_finding_20 : decode cX4_finding 20 = .ok (.dup2, 1) := by decide +kernel
theorem dX4_finding_21 : decode cX4_finding 21 = .ok (.iaload, 1) := by decide +kernel
theorem dX4_finding_22 : decode cX4_finding 22 = .ok (.iconst 1, 1) := by decide +kernel
theorem dX4_finding_23 : decode cX4_finding 23 = .ok (.iadd, 1) := by decide +kernel
theorem dX4_finding_24 : decode cX4_finding 24 = .ok (.iastore, 1) := by decide +kernel
theorem dX4_finding_25 : decode cX4_finding 25 = .ok (.iload_n 1, 1) := by decide +kernel
theorem dX4_finding_26 : decode cX4_finding 26 = .ok (.ireturn, 1) := by decide +kernel
theorem dX4_isWithin_0 : decode cX4_isWithin 0 = .ok (.iload_n 0, 1) := by decide +kernel
theorem dX4_isWithin_1 : decode cX4_isWithin 1 = .ok (.ifCond .lt 12, 3) := by decide +kernel
theorem dX4_isWithin_4 : decode cX4_isWithin 4 = .ok (.iload_n 0, 1) := by decide +kernel
theorem dX4_isWithin_5 : decode cX4_isWithin 5 = .ok (.iload_n 1, 1) := by decide +kernel
theorem dX4_isWithin_6 : decode cX4_isWithin 6 = .ok (.if_icmp .gt 7, 3) := by decide +kernel
theorem dX4_isWithin_9 : decode cX4_isWithin 9 = .ok (.iconst 1, 1) := by decide +kernel
theorem dX4_isWithin_10 : decode cX4_isWithin 10 = .ok (.goto 4, 3) := by decide +kernel
theorem dX4_isWithin_13 : decode cX4_isWithin 13 = .ok (.iconst 0, 1) := by decide +kernel
theorem dX4_isWithin_14 : decode cX4_isWithin 14 = .ok (.ireturn, 1) := by decide +kernel
theorem dX4_isHouse_0 : decode cX4_isHouse 0 = .ok (.iload_n 0, 1) := by decide +kernel
theorem dX4_isHouse_1 : decode cX4_isHouse 1 = .ok (.ifCond .lt 13, 3) := by decide +kernel
theorem dX4_isHouse_4 : decode cX4_isHouse 4 = .ok (.iload_n 0, 1) := by decide +kernel
theorem dX4_isHouse_5 : decode cX4_isHouse 5 = .ok (.bipush 8, 2) := by decide +kernel
theorem dX4_isHouse_7 : decode cX4_isHouse 7 = .ok (.if_icmp .ge 7, 3) := by decide +kernel
theorem dX4_isHouse_10 : decode cX4_isHouse 10 = .ok (.iconst 1, 1) := by decide +kernel
theorem dX4_isHouse_11 : decode cX4_isHouse 11 = .ok (.goto 4, 3) := by decide +kernel
theorem dX4_isHouse_14 : decode cX4_isHouse 14 = .ok (.iconst 0, 1) := by decide +kernel
theorem dX4_isHouse_15 : decode cX4_isHouse 15 = .ok (.ireturn, 1) := by decide +kernel
theorem dX4_isKind_0 : decode cX4_isKind 0 = .ok (.iload_n 0, 1) := by decide +kernel
theorem dX4_isKind_1 : decode cX4_isKind 1 = .ok (.ifCond .lt 13, 3) := by decide +kernel
theorem dX4_isKind_4 : decode cX4_isKind 4 = .ok (.iload_n 0, 1) := by decide +kernel
theorem dX4_isKind_5 : decode cX4_isKind 5 = .ok (.bipush 6, 2) := by decide +kernel
theorem dX4_isKind_7 : decode cX4_isKind 7 = .ok (.if_icmp .ge 7, 3) := by decide +kernel
theorem dX4_isKind_10 : decode cX4_isKind 10 = .ok (.iconst 1, 1) := by decide +kernel
theorem dX4_isKind_11 : decode cX4_isKind 11 = .ok (.goto 4, 3) := by decide +kernel
theorem dX4_isKind_14 : decode cX4_isKind 14 = .ok (.iconst 0, 1) := by decide +kernel
theorem dX4_isKind_15 : decode cX4_isKind 15 = .ok (.ireturn, 1) := by decide +kernel
theorem dX4_isEvent_0 : decode cX4_isEvent 0 = .ok (.iload_n 0, 1) := by decide +kernel
theorem dX4_isEvent_1 : decode cX4_isEvent 1 = .ok (.ifCond .lt 13, 3) := by decide +kernel
theorem dX4_isEvent_4 : decode cX4_isEvent 4 = .ok (.iload_n 0, 1) := by decide +kernel
theorem dX4_isEvent_5 : decode cX4_isEvent 5 = .ok (.bipush 16, 2) := by decide +kernel
theorem dX4_isEvent_7 : decode cX4_isEvent 7 = .ok (.if_icmp .ge 7, 3) := by decide +kernel
theorem dX4_isEvent_10 : decode cX4_isEvent 10 = .ok (.iconst 1, 1) := by decide +kernel
theorem dX4_isEvent_11 : decode cX4_isEvent 11 = .ok (.goto 4, 3) := by decide +kernel
theorem dX4_isEvent_14 : decode cX4_isEvent 14 = .ok (.iconst 0, 1) := by decide +kernel
theorem dX4_isEvent_15 : decode cX4_isEvent 15 = .ok (.ireturn, 1) := by decide +kernel
theorem dX4_isSheet_0 : decode cX4_isSheet 0 = .ok (.iload_n 0, 1) := by decide +kernel
theorem dX4_isSheet_1 : decode cX4_isSheet 1 = .ok (.ifCond .lt 12, 3) := by decide +kernel
theorem dX4_isSheet_4 : decode cX4_isSheet 4 = .ok (.iload_n 0, 1) := by decide +kernel
theorem dX4_isSheet_5 : decode cX4_isSheet 5 = .ok (.iconst 4, 1) := by decide +kernel
theorem dX4_isSheet_6 : decode cX4_isSheet 6 = .ok (.if_icmp .ge 7, 3) := by decide +kernel
theorem dX4_isSheet_9 : decode cX4_isSheet 9 = .ok (.iconst 1, 1) := by decide +kernel
theorem dX4_isSheet_10 : decode cX4_isSheet 10 = .ok (.goto 4, 3) := by decide +kernel
theorem dX4_isSheet_13 : decode cX4_isSheet 13 = .ok (.iconst 0, 1) := by decide +kernel
theorem dX4_isSheet_14 : decode cX4_isSheet 14 = .ok (.ireturn, 1) := by decide +kernel
theorem dX4_isRumour_0 : decode cX4_isRumour 0 = .ok (.iload_n 1, 1) := by decide +kernel
theorem dX4_isRumour_1 : decode cX4_isRumour 1 = .ok (.ifCond .lt 18, 3) := by decide +kernel
theorem dX4_isRumour_4 : decode cX4_isRumour 4 = .ok (.iload_n 1, 1) := by decide +kernel
theorem dX4_isRumour_5 : decode cX4_isRumour 5 = .ok (.aload_n 0, 1) := by decide +kernel
theorem dX4_isRumour_6 : decode cX4_isRumour 6 = .ok (.getfield 10, 3) := by decide +kernel
theorem dX4_isRumour_9 : decode cX4_isRumour 9 = .ok (.getfield 160, 3) := by decide +kernel
theorem dX4_isRumour_12 : decode cX4_isRumour 12 = .ok (.if_icmp .ge 7, 3) := by decide +kernel
theorem dX4_isRumour_15 : decode cX4_isRumour 15 = .ok (.iconst 1, 1) := by decide +kernel
theorem dX4_isRumour_16 : decode cX4_isRumour 16 = .ok (.goto 4, 3) := by decide +kernel
theorem dX4_isRumour_19 : decode cX4_isRumour 19 = .ok (.iconst 0, 1) := by decide +kernel
theorem dX4_isRumour_20 : decode cX4_isRumour 20 = .ok (.ireturn, 1) := by decide +kernel
theorem dX4_mostOfHouse_0 : decode cX4_mostOfHouse 0 = .ok (.iload_n 0, 1) := by decide +kernel
theorem dX4_mostOfHouse_1 : decode cX4_mostOfHouse 1 = .ok (.tableswitch 36 0 2 #[27, 29, 33], 27) := by decide +kernel
theorem dX4_mostOfHouse_28 : decode cX4_mostOfHouse 28 = .ok (.iconst 3, 1) := by decide +kernel
theorem dX4_mostOfHouse_29 : decode cX4_mostOfHouse 29 = .ok (.ireturn, 1) := by decide +kernel
theorem dX4_mostOfHouse_30 : decode cX4_mostOfHouse 30 = .ok (.sipush 999, 3) := by decide +kernel
theorem dX4_mostOfHouse_33 : decode cX4_mostOfHouse 33 = .ok (.ireturn, 1) := by decide +kernel
theorem dX4_mostOfHouse_34 : decode cX4_mostOfHouse 34 = .ok (.bipush 9, 2) := by decide +kernel
theorem dX4_mostOfHouse_36 : decode cX4_mostOfHouse 36 = .ok (.ireturn, 1) := by decide +kernel
theorem dX4_mostOfHouse_37 : decode cX4_mostOfHouse 37 = .ok (.iconst (-1), 1) := by decide +kernel
theorem dX4_mostOfHouse_38 : decode cX4_mostOfHouse 38 = .ok (.ireturn, 1) := by decide +kernel
theorem dX4_mostOfRumour_0 : decode cX4_mostOfRumour 0 = .ok (.iload_n 0, 1) := by decide +kernel
theorem dX4_mostOfRumour_1 : decode cX4_mostOfRumour 1 = .ok (.tableswitch 37 1 3 #[27, 30, 33], 27) := by decide +kernel
theorem dX4_mostOfRumour_28 : decode cX4_mostOfRumour 28 = .ok (.bipush 15, 2) := by decide +kernel
theorem dX4_mostOfRumour_30 : decode cX4_mostOfRumour 30 = .ok (.ireturn, 1) := by decide +kernel
theorem dX4_mostOfRumour_31 : decode cX4_mostOfRumour 31 = .ok (.bipush 99, 2) := by decide +kernel
theorem dX4_mostOfRumour_33 : decode cX4_mostOfRumour 33 = .ok (.ireturn, 1) := by decide +kernel
theorem dX4_mostOfRumour_34 : decode cX4_mostOfRumour 34 = .ok (.sipush 999, 3) := by decide +kernel
theorem dX4_mostOfRumour_37 : decode cX4_mostOfRumour 37 = .ok (.ireturn, 1) := by decide +kernel
theorem dX4_mostOfRumour_38 : decode cX4_mostOfRumour 38 = .ok (.iconst (-1), 1) := by decide +kernel
theorem dX4_mostOfRumour_39 : decode cX4_mostOfRumour 39 = .ok (.ireturn, 1) := by decide +kernel
theorem dX4_sumOf_0 : decode cX4_sumOf 0 = .ok (.iconst 0, 1) := by decide +kernel
theorem dX4_sumOf_1 : decode cX4_sumOf 1 = .ok (.istore_n 1, 1) := by decide +kernel
theorem dX4_sumOf_2 : decode cX4_sumOf 2 = .ok (.iconst 0, 1) := by decide +kernel
theorem dX4_sumOf_3 : decode cX4_sumOf 3 = .ok (.istore_n 2, 1) := by decide +kernel
theorem dX4_sumOf_4 : decode cX4_sumOf 4 = .ok (.iload_n 2, 1) := by decide +kernel
theorem dX4_sumOf_5 : decode cX4_sumOf 5 = .ok (.aload_n 0, 1) := by decide +kernel
theorem dX4_sumOf_6 : decode cX4_sumOf 6 = .ok (.arraylength, 1) := by decide +kernel
theorem dX4_sumOf_7 : decode cX4_sumOf 7 = .ok (.if_icmp .ge 15, 3) := by decide +kernel
theorem dX4_sumOf_10 : decode cX4_sumOf 10 = .ok (.iload_n 1, 1) := by decide +kernel
theorem dX4_sumOf_11 : decode cX4_sumOf 11 = .ok (.aload_n 0, 1) := by decide +kernel
theorem dX4_sumOf_12 : decode cX4_sumOf 12 = .ok (.iload_n 2, 1) := by decide +kernel
theorem dX4_sumOf_13 : decode cX4_sumOf 13 = .ok (.iaload, 1) := by decide +kernel
theorem dX4_sumOf_14 : decode cX4_sumOf 14 = .ok (.iadd, 1) := by decide +kernel
theorem dX4_sumOf_15 : decode cX4_sumOf 15 = .ok (.istore_n 1, 1) := by decide +kernel
theorem dX4_sumOf_16 : decode cX4_sumOf 16 = .ok (.iinc 2 1, 3) := by decide +kernel
theorem dX4_sumOf_19 : decode cX4_sumOf 19 = .ok (.goto (-15), 3) := by decide +kernel
theorem dX4_sumOf_22 : decode cX4_sumOf 22 = .ok (.iload_n 1, 1) := by decide +kernel
theorem dX4_sumOf_23 : decode cX4_sumOf 23 = .ok (.ireturn, 1) := by decide +kernel
theorem dX4_findingOfBook_0 : decode cX4_findingOfBook 0 = .ok (.iload_n 1, 1) := by decide +kernel
theorem dX4_findingOfBook_1 : decode cX4_findingOfBook 1 = .ok (.invokestatic 201, 3) := by decide +kernel
theorem dX4_findingOfBook_4 : decode cX4_findingOfBook 4 = .ok (.ifCond .ne 6, 3) := by decide +kernel
theorem dX4_findingOfBook_7 : decode cX4_findingOfBook 7 = .ok (.ldc 56, 2) := by decide +kernel
theorem dX4_findingOfBook_9 : decode cX4_findingOfBook 9 = .ok (.ireturn, 1) := by decide +kernel
theorem dX4_findingOfBook_10 : decode cX4_findingOfBook 10 = .ok (.aload_n 0, 1) := by decide +kernel
theorem dX4_findingOfBook_11 : decode cX4_findingOfBook 11 = .ok (.getfield 35, 3) := by decide +kernel
theorem dX4_findingOfBook_14 : decode cX4_findingOfBook 14 = .ok (.iload_n 1, 1) := by decide +kernel
theorem dX4_findingOfBook_15 : decode cX4_findingOfBook 15 = .ok (.aaload, 1) := by decide +kernel
theorem dX4_findingOfBook_16 : decode cX4_findingOfBook 16 = .ok (.invokevirtual 209, 3) := by decide +kernel
theorem dX4_findingOfBook_19 : decode cX4_findingOfBook 19 = .ok (.ifCond .eq 6, 3) := by decide +kernel
theorem dX4_findingOfBook_22 : decode cX4_findingOfBook 22 = .ok (.ldc 212, 2) := by decide +kernel
theorem dX4_findingOfBook_24 : decode cX4_findingOfBook 24 = .ok (.ireturn, 1) := by decide +kernel
theorem dX4_findingOfBook_25 : decode cX4_findingOfBook 25 = .ok (.iload_n 2, 1) := by decide +kernel
theorem dX4_findingOfBook_26 : decode cX4_findingOfBook 26 = .ok (.invokestatic 44, 3) := by decide +kernel
theorem dX4_findingOfBook_29 : decode cX4_findingOfBook 29 = .ok (.ifCond .eq 7, 3) := by decide +kernel
theorem dX4_findingOfBook_32 : decode cX4_findingOfBook 32 = .ok (.iconst 0, 1) := by decide +kernel
theorem dX4_findingOfBook_33 : decode cX4_findingOfBook 33 = .ok (.goto 5, 3) := by decide +kernel
theorem dX4_findingOfBook_36 : decode cX4_findingOfBook 36 = .ok (.ldc 56, 2) := by decide +kernel
theorem dX4_findingOfBook_38 : decode cX4_findingOfBook 38 = .ok (.ireturn, 1) := by decide +kernel
theorem dX4_isBookOf_0 : decode cX4_isBookOf 0 = .ok (.iconst 0, 1) := by decide +kernel
theorem dX4_isBookOf_1 : decode cX4_isBookOf 1 = .ok (.istore_n 3, 1) := by decide +kernel
theorem dX4_isBookOf_2 : decode cX4_isBookOf 2 = .ok (.iload_n 3, 1) := by decide +kernel
theorem dX4_isBookOf_3 : decode cX4_isBookOf 3 = .ok (.aload_n 1, 1) := by decide +kernel
theorem dX4_isBookOf_4 : decode cX4_isBookOf 4 = .ok (.getfield 208, 3) := by decide +kernel
theorem dX4_isBookOf_7 : decode cX4_isBookOf 7 = .ok (.if_icmp .ge 38, 3) := by decide +kernel
theorem dX4_isBookOf_10 : decode cX4_isBookOf 10 = .ok (.aload_n 1, 1) := by decide +kernel
theorem dX4_isBookOf_11 : decode cX4_isBookOf 11 = .ok (.getfield 213, 3) := by decide +kernel
theorem dX4_isBookOf_14 : decode cX4_isBookOf 14 = .ok (.iload_n 3, 1) := by decide +kernel
theorem dX4_isBookOf_15 : decode cX4_isBookOf 15 = .ok (.laload, 1) := by decide +kernel
theorem dX4_isBookOf_16 : decode cX4_isBookOf 16 = .ok (.aload_n 0, 1) := by decide +kernel
theorem dX4_isBookOf_17 : decode cX4_isBookOf 17 = .ok (.getfield 16, 3) := by decide +kernel
theorem dX4_isBookOf_20 : decode cX4_isBookOf 20 = .ok (.getfield 63, 3) := by decide +kernel
theorem dX4_isBookOf_23 : decode cX4_isBookOf 23 = .ok (.iload_n 2, 1) := by decide +kernel
theorem dX4_isBookOf_24 : decode cX4_isBookOf 24 = .ok (.iaload, 1) := by decide +kernel
theorem dX4_isBookOf_25 : decode cX4_isBookOf 25 = .ok (.i2l, 1) := by decide +kernel
theorem dX4_isBookOf_26 : decode cX4_isBookOf 26 = .ok (.lcmp, 1) := by decide +kernel
theorem dX4_isBookOf_27 : decode cX4_isBookOf 27 = .ok (.ifCond .eq 5, 3) := by decide +kernel
theorem dX4_isBookOf_30 : decode cX4_isBookOf 30 = .ok (.iconst 0, 1) := by decide +kernel
theorem dX4_isBookOf_31 : decode cX4_isBookOf 31 = .ok (.ireturn, 1) := by decide +kernel
theorem dX4_isBookOf_32 : decode cX4_isBookOf 32 = .ok (.aload_n 0, 1) := by decide +kernel
theorem dX4_isBookOf_33 : decode cX4_isBookOf 33 = .ok (.getfield 16, 3) := by decide +kernel
theorem dX4_isBookOf_36 : decode cX4_isBookOf 36 = .ok (.invokevirtual 181, 3) := by decide +kernel
theorem dX4_isBookOf_39 : decode cX4_isBookOf 39 = .ok (.iinc 3 1, 3) := by decide +kernel
theorem dX4_isBookOf_42 : decode cX4_isBookOf 42 = .ok (.goto (-40), 3) := by decide +kernel
theorem dX4_isBookOf_45 : decode cX4_isBookOf 45 = .ok (.iconst 1, 1) := by decide +kernel
theorem dX4_isBookOf_46 : decode cX4_isBookOf 46 = .ok (.ireturn, 1) := by decide +kernel
