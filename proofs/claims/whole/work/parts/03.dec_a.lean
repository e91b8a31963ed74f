theorem dX0_isUnder_0 : decode cX0_isUnder 0 = .ok (.iload_n 0, 1) := by decide +kernel
theorem dX0_isUnder_1 : decode cX0_isUnder 1 = .ok (.istore_n 2, 1) := by decide +kernel
theorem dX0_isUnder_2 : decode cX0_isUnder 2 = .ok (.iconst 0, 1) := by decide +kernel
theorem dX0_isUnder_3 : decode cX0_isUnder 3 = .ok (.istore_n 3, 1) := by decide +kernel
theorem dX0_isUnder_4 : decode cX0_isUnder 4 = .ok (.iload_n 3, 1) := by decide +kernel
theorem dX0_isUnder_5 : decode cX0_isUnder 5 = .ok (.bipush 6, 2) := by decide +kernel
theorem dX0_isUnder_7 : decode cX0_isUnder 7 = .ok (.if_icmp .ge 32, 3) := by decide +kernel
theorem dX0_isUnder_10 : decode cX0_isUnder 10 = .ok (.iload_n 2, 1) := by decide +kernel
theorem dX0_isUnder_11 : decode cX0_isUnder 11 = .ok (.ifCond .lt 28, 3) := by decide +kernel
theorem dX0_isUnder_14 : decode cX0_isUnder 14 = .ok (.iload_n 2, 1) := by decide +kernel
theorem dX0_isUnder_15 : decode cX0_isUnder 15 = .ok (.bipush 6, 2) := by decide +kernel
theorem dX0_isUnder_17 : decode cX0_isUnder 17 = .ok (.if_icmp .ge 22, 3) := by decide +kernel
theorem dX0_isUnder_20 : decode cX0_isUnder 20 = .ok (.iload_n 2, 1) := by decide +kernel
theorem dX0_isUnder_21 : decode cX0_isUnder 21 = .ok (.iload_n 1, 1) := by decide +kernel
theorem dX0_isUnder_22 : decode cX0_isUnder 22 = .ok (.if_icmp .ne 5, 3) := by decide +kernel
theorem dX0_isUnder_25 : decode cX0_isUnder 25 = .ok (.iconst 1, 1) := by decide +kernel
theorem dX0_isUnder_26 : decode cX0_isUnder 26 = .ok (.ireturn, 1) := by decide +kernel
theorem dX0_isUnder_27 : decode cX0_isUnder 27 = .ok (.getstatic 9, 3) := by decide +kernel
theorem dX0_isUnder_30 : decode cX0_isUnder 30 = .ok (.iload_n 2, 1) := by decide +kernel
theorem dX0_isUnder_31 : decode cX0_isUnder 31 = .ok (.iaload, 1) := by decide +kernel
theorem dX0_isUnder_32 : decode cX0_isUnder 32 = .ok (.istore_n 2, 1) := by decide +kernel
theorem dX0_isUnder_33 : decode cX0_isUnder 33 = .ok (.iinc 3 1, 3) := by decide +kernel
theorem dX0_isUnder_36 : decode cX0_isUnder 36 = .ok (.goto (-32), 3) := by decide +kernel
theorem dX0_isUnder_39 : decode cX0_isUnder 39 = .ok (.iconst 0, 1) := by decide +kernel
theorem dX0_isUnder_40 : decode cX0_isUnder 40 = .ok (.ireturn, 1) := by decide +kernel
theorem dX0_eats_0 : decode cX0_eats 0 = .ok (.iload_n 1, 1) := by decide +kernel
theorem dX0_eats_1 : decode cX0_eats 1 = .ok (.bipush 10, 2) := by decide +kernel
theorem dX0_eats_3 : decode cX0_eats 3 = .ok (.idiv, 1) := by decide +kernel
theorem dX0_eats_4 : decode cX0_eats 4 = .ok (.iconst 1, 1) := by decide +kernel
theorem dX0_eats_5 : decode cX0_eats 5 = .ok (.iadd, 1) := by decide +kernel
theorem dX0_eats_6 : decode cX0_eats 6 = .ok (.istore_n 3, 1) := by decide +kernel
theorem dX0_eats_7 : decode cX0_eats 7 = .ok (.iconst 2, 1) := by decide +kernel
theorem dX0_eats_8 : decode cX0_eats 8 = .ok (.iload_n 3, 1) := by decide +kernel
theorem dX0_eats_9 : decode cX0_eats 9 = .ok (.imul, 1) := by decide +kernel
theorem dX0_eats_10 : decode cX0_eats 10 = .ok (.istore 4, 2) := by decide +kernel
theorem dX0_eats_12 : decode cX0_eats 12 = .ok (.iconst 1, 1) := by decide +kernel
theorem dX0_eats_13 : decode cX0_eats 13 = .ok (.istore 5, 2) := by decide +kernel
theorem dX0_eats_15 : decode cX0_eats 15 = .ok (.iload_n 0, 1) := by decide +kernel
theorem dX0_eats_16 : decode cX0_eats 16 = .ok (.tableswitch 63 1 5 #[36, 39, 42, 53, 58], 36) := by decide +kernel
theorem dX0_eats_52 : decode cX0_eats 52 = .ok (.iload 4, 2) := by decide +kernel
theorem dX0_eats_54 : decode cX0_eats 54 = .ok (.ireturn, 1) := by decide +kernel
theorem dX0_eats_55 : decode cX0_eats 55 = .ok (.iload 5, 2) := by decide +kernel
theorem dX0_eats_57 : decode cX0_eats 57 = .ok (.ireturn, 1) := by decide +kernel
theorem dX0_eats_58 : decode cX0_eats 58 = .ok (.iconst 0, 1) := by decide +kernel
theorem dX0_eats_59 : decode cX0_eats 59 = .ok (.iload_n 3, 1) := by decide +kernel
theorem dX0_eats_60 : decode cX0_eats 60 = .ok (.iload_n 2, 1) := by decide +kernel
theorem dX0_eats_61 : decode cX0_eats 61 = .ok (.bipush 10, 2) := by decide +kernel
theorem dX0_eats_63 : decode cX0_eats 63 = .ok (.idiv, 1) := by decide +kernel
theorem dX0_eats_64 : decode cX0_eats 64 = .ok (.isub, 1) := by decide +kernel
theorem dX0_eats_65 : decode cX0_eats 65 = .ok (.invokestatic 13, 3) := by decide +kernel
theorem dX0_eats_68 : decode cX0_eats 68 = .ok (.ireturn, 1) := by decide +kernel
theorem dX0_eats_69 : decode cX0_eats 69 = .ok (.iload 4, 2) := by decide +kernel
theorem dX0_eats_71 : decode cX0_eats 71 = .ok (.iconst 3, 1) := by decide +kernel
theorem dX0_eats_72 : decode cX0_eats 72 = .ok (.iadd, 1) := by decide +kernel
theorem dX0_eats_73 : decode cX0_eats 73 = .ok (.ireturn, 1) := by decide +kernel
theorem dX0_eats_74 : decode cX0_eats 74 = .ok (.iload 5, 2) := by decide +kernel
theorem dX0_eats_76 : decode cX0_eats 76 = .ok (.iconst 1, 1) := by decide +kernel
theorem dX0_eats_77 : decode cX0_eats 77 = .ok (.isub, 1) := by decide +kernel
theorem dX0_eats_78 : decode cX0_eats 78 = .ok (.ireturn, 1) := by decide +kernel
theorem dX0_eats_79 : decode cX0_eats 79 = .ok (.iload_n 3, 1) := by decide +kernel
theorem dX0_eats_80 : decode cX0_eats 80 = .ok (.ireturn, 1) := by decide +kernel
theorem dX0_needs_0 : decode cX0_needs 0 = .ok (.iconst 3, 1) := by decide +kernel
theorem dX0_needs_1 : decode cX0_needs 1 = .ok (.istore_n 2, 1) := by decide +kernel
theorem dX0_needs_2 : decode cX0_needs 2 = .ok (.iload_n 1, 1) := by decide +kernel
theorem dX0_needs_3 : decode cX0_needs 3 = .ok (.bipush 20, 2) := by decide +kernel
theorem dX0_needs_5 : decode cX0_needs 5 = .ok (.if_icmp .ge 7, 3) := by decide +kernel
theorem dX0_needs_8 : decode cX0_needs 8 = .ok (.iconst 1, 1) := by decide +kernel
theorem dX0_needs_9 : decode cX0_needs 9 = .ok (.goto 4, 3) := by decide +kernel
theorem dX0_needs_12 : decode cX0_needs 12 = .ok (.iload_n 2, 1) := by decide +kernel
theorem dX0_needs_13 : decode cX0_needs 13 = .ok (.istore_n 3, 1) := by decide +kernel
theorem dX0_needs_14 : decode cX0_needs 14 = .ok (.iconst 2, 1) := by decide +kernel
theorem dX0_needs_15 : decode cX0_needs 15 = .ok (.iload_n 2, 1) := by decide +kernel
theorem dX0_needs_16 : decode cX0_needs 16 = .ok (.imul, 1) := by decide +kernel
theorem dX0_needs_17 : decode cX0_needs 17 = .ok (.istore 4, 2) := by decide +kernel
theorem dX0_needs_19 : decode cX0_needs 19 = .ok (.iload_n 0, 1) := by decide +kernel
theorem dX0_needs_20 : decode cX0_needs 20 = .ok (.tableswitch 54 1 5 #[36, 38, 41, 45, 49], 36) := by decide +kernel
theorem dX0_needs_56 : decode cX0_needs 56 = .ok (.iload_n 3, 1) := by decide +kernel
theorem dX0_needs_57 : decode cX0_needs 57 = .ok (.ireturn, 1) := by decide +kernel
theorem dX0_needs_58 : decode cX0_needs 58 = .ok (.iload 4, 2) := by decide +kernel
theorem dX0_needs_60 : decode cX0_needs 60 = .ok (.ireturn, 1) := by decide +kernel
theorem dX0_needs_61 : decode cX0_needs 61 = .ok (.iload_n 2, 1) := by decide +kernel
theorem dX0_needs_62 : decode cX0_needs 62 = .ok (.iconst 1, 1) := by decide +kernel
theorem dX0_needs_63 : decode cX0_needs 63 = .ok (.iadd, 1) := by decide +kernel
theorem dX0_needs_64 : decode cX0_needs 64 = .ok (.ireturn, 1) := by decide +kernel
theorem dX0_needs_65 : decode cX0_needs 65 = .ok (.iload_n 3, 1) := by decide +kernel
theorem dX0_needs_66 : decode cX0_needs 66 = .ok (.iconst 1, 1) := by decide +kernel
theorem dX0_needs_67 : decode cX0_needs 67 = .ok (.isub, 1) := by decide +kernel
theorem dX0_needs_68 : decode cX0_needs 68 = .ok (.ireturn, 1) := by decide +kernel
theorem dX0_needs_69 : decode cX0_needs 69 = .ok (.iload 4, 2) := by decide +kernel
theorem dX0_needs_71 : decode cX0_needs 71 = .ok (.iconst 1, 1) := by decide +kernel
theorem dX0_needs_72 : decode cX0_needs 72 = .ok (.iadd, 1) := by decide +kernel
theorem dX0_needs_73 : decode cX0_needs 73 = .ok (.ireturn, 1) := by decide +kernel
theorem dX0_needs_74 : decode cX0_needs 74 = .ok (.iload_n 2, 1) := by decide +kernel
theorem dX0_needs_75 : decode cX0_needs 75 = .ok (.ireturn, 1) := by decide +kernel
theorem dX0_grows_0 : decode cX0_grows 0 = .ok (.iconst 1, 1) := by decide +kernel
theorem dX0_grows_1 : decode cX0_grows 1 = .ok (.istore_n 3, 1) := by decide +kernel
theorem dX0_grows_2 : decode cX0_grows 2 = .ok (.iload_n 0, 1) := by decide +kernel
theorem dX0_grows_3 : decode cX0_grows 3 = .ok (.tableswitch 54 1 5 #[33, 40, 42, 33, 40], 33) := by decide +kernel
theorem dX0_grows_36 : decode cX0_grows 36 = .ok (.iload_n 1, 1) := by decide +kernel
theorem dX0_grows_37 : decode cX0_grows 37 = .ok (.bipush 10, 2) := by decide +kernel
theorem dX0_grows_39 : decode cX0_grows 39 = .ok (.idiv, 1) := by decide +kernel
theorem dX0_grows_40 : decode cX0_grows 40 = .ok (.iload_n 3, 1) := by decide +kernel
theorem dX0_grows_41 : decode cX0_grows 41 = .ok (.iadd, 1) := by decide +kernel
theorem dX0_grows_42 : decode cX0_grows 42 = .ok (.ireturn, 1) := by decide +kernel
theorem dX0_grows_43 : decode cX0_grows 43 = .ok (.iconst 0, 1) := by decide +kernel
theorem dX0_grows_44 : decode cX0_grows 44 = .ok (.ireturn, 1) := by decide +kernel
theorem dX0_grows_45 : decode cX0_grows 45 = .ok (.iload_n 2, 1) := by decide +kernel
theorem dX0_grows_46 : decode cX0_grows 46 = .ok (.iconst 2, 1) := by decide +kernel
theorem dX0_grows_47 : decode cX0_grows 47 = .ok (.irem, 1) := by decide +kernel
theorem dX0_grows_48 : decode cX0_grows 48 = .ok (.ifCond .ne 7, 3) := by decide +kernel
theorem dX0_grows_51 : decode cX0_grows 51 = .ok (.iload_n 3, 1) := by decide +kernel
theorem dX0_grows_52 : decode cX0_grows 52 = .ok (.goto 4, 3) := by decide +kernel
theorem dX0_grows_55 : decode cX0_grows 55 = .ok (.iconst 0, 1) := by decide +kernel
theorem dX0_grows_56 : decode cX0_grows 56 = .ok (.ireturn, 1) := by decide +kernel
theorem dX0_grows_57 : decode cX0_grows 57 = .ok (.iload_n 3, 1) := by decide +kernel
theorem dX0_grows_58 : decode cX0_grows 58 = .ok (.ireturn, 1) := by decide +kernel
theorem dX0_nameOf_0 : decode cX0_nameOf 0 = .ok (.iload_n 0, 1) := by decide +kernel
theorem dX0_nameOf_1 : decode cX0_nameOf 1 = .ok (.tableswitch 50 1 5 #[35, 38, 41, 44, 47], 35) := by decide +kernel
theorem dX0_nameOf_36 : decode cX0_nameOf 36 = .ok (.ldc 19, 2) := by decide +kernel
theorem dX0_nameOf_38 : decode cX0_nameOf 38 = .ok (.areturn, 1) := by decide +kernel
theorem dX0_nameOf_39 : decode cX0_nameOf 39 = .ok (.ldc 21, 2) := by decide +kernel
theorem dX0_nameOf_41 : decode cX0_nameOf 41 = .ok (.areturn, 1) := by decide +kernel
theorem dX0_nameOf_42 : decode cX0_nameOf 42 = .ok (.ldc 23, 2) := by decide +kernel
theorem dX0_nameOf_44 : decode cX0_nameOf 44 = .ok (.areturn, 1) := by decide +kernel
theorem dX0_nameOf_45 : decode cX0_nameOf 45 = .ok (.ldc 25, 2) := by decide +kernel
theorem dX0_nameOf_47 : decode cX0_nameOf 47 = .ok (.areturn, 1) := by decide +kernel
theorem dX0_nameOf_48 : decode cX0_nameOf 48 = .ok (.ldc 27, 2) := by decide +kernel
theorem dX0_nameOf_50 : decode cX0_nameOf 50 = .ok (.areturn, 1) := by decide +kernel
theorem dX0_nameOf_51 : decode cX0_nameOf 51 = .ok (.ldc 29, 2) := by decide +kernel
theorem dX0_nameOf_53 : decode cX0_nameOf 53 = .ok (.areturn, 1) := by decide +kernel
theorem dX1_init_0 : decode cX1_init 0 = .ok (.aload_n 0, 1) := by decide +kernel
theorem dX1_init_1 : decode cX1_init 1 = .ok (.invokespecial 1, 3) := by decide +kernel
theorem dX1_init_4 : decode cX1_init 4 = .ok (.aload_n 0, 1) := by decide +kernel
theorem dX1_init_5 : decode cX1_init 5 = .ok (.iconst 0, 1) := by decide +kernel
theorem dX1_init_6 : decode cX1_init 6 = .ok (.putfield 7, 3) := by decide +kernel
theorem dX1_init_9 : decode cX1_init 9 = .ok (.aload_n 0, 1) := by decide +kernel
theorem dX1_init_10 : decode cX1_init 10 = .ok (.iconst 0, 1) := by decide +kernel
theorem dX1_init_11 : decode cX1_init 11 = .ok (.putfield 13, 3) := by decide +kernel
theorem dX1_init_14 : decode cX1_init 14 = .ok (.aload_n 0, 1) := by decide +kernel
theorem dX1_init_15 : decode cX1_init 15 = .ok (.bipush 40, 2) := by decide +kernel
theorem dX1_init_17 : decode cX1_init 17 = .ok (.newarray .long, 2) := by decide +kernel
theorem dX1_init_19 : decode cX1_init 19 = .ok (.putfield 16, 3) := by decide +kernel
theorem dX1_init_22 : decode cX1_init 22 = .ok (.return_, 1) := by decide +kernel
theorem dX1_isMissing_0 : decode cX1_isMissing 0 = .ok (.aload_n 0, 1) := by decide +kernel
theorem dX1_isMissing_1 : decode cX1_isMissing 1 = .ok (.getfield 7, 3) := by decide +kernel
theorem dX1_isMissing_4 : decode cX1_isMissing 4 = .ok (.ifCond .ne 7, 3) := by decide +kernel
theorem dX1_isMissing_7 : decode cX1_isMissing 7 = .ok (.iconst 1, 1) := by decide +kernel
theorem dX1_isMissing_8 : decode cX1_isMissing 8 = .ok (.goto 4, 3) := by decide +kernel
theorem dX1_isMissing_11 : decode cX1_isMissing 11 = .ok (.iconst 0, 1) := by decide +kernel
theorem dX1_isMissing_12 : decode cX1_isMissing 12 = .ok (.ireturn, 1) := by decide +kernel
theorem dX1_begin_0 : decode cX1_begin 0 = .ok (.aload_n 0, 1) := by decide +kernel
theorem dX1_begin_1 : decode cX1_begin 1 = .ok (.iload_n 1, 1) := by decide +kernel
theorem dX1_begin_2 : decode cX1_begin 2 = .ok (.putfield 7, 3) := by decide +kernel
theorem dX1_begin_5 : decode cX1_begin 5 = .ok (.aload_n 0, 1) := by decide +kernel
theorem dX1_begin_6 : decode cX1_begin 6 = .ok (.iload_n 1, 1) := by decide +kernel
theorem dX1_begin_7 : decode cX1_begin 7 = .ok (.ifCond .ne 7, 3) := by decide +kernel
theorem dX1_begin_10 : decode cX1_begin 10 = .ok (.iconst 0, 1) := by decide +kernel
theorem dX1_begin_11 : decode cX1_begin 11 = .ok (.goto 4, 3) := by decide +kernel
theorem dX1_begin_14 : decode cX1_begin 14 = .ok (.iload_n 2, 1) := by decide +kernel
theorem dX1_begin_15 : decode cX1_begin 15 = .ok (.putfield 13, 3) := by decide +kernel
theorem dX1_begin_18 : decode cX1_begin 18 = .ok (.iconst 0, 1) := by decide +kernel
theorem dX1_begin_19 : decode cX1_begin 19 = .ok (.istore_n 3, 1) := by decide +kernel
theorem dX1_begin_20 : decode cX1_begin 20 = .ok (.iload_n 3, 1) := by decide +kernel
theorem dX1_begin_21 : decode cX1_begin 21 = .ok (.bipush 40, 2) := by decide +kernel
theorem dX1_begin_23 : decode cX1_begin 23 = .ok (.if_icmp .ge 16, 3) := by decide +kernel
theorem dX1_begin_26 : decode cX1_begin 26 = .ok (.aload_n 0, 1) := by decide +kernel
theorem dX1_begin_27 : decode cX1_begin 27 = .ok (.getfield 16, 3) := by decide +kernel
theorem dX1_begin_30 : decode cX1_begin 30 = .ok (.iload_n 3, 1) := by decide +kernel
theorem dX1_begin_31 : decode cX1_begin 31 = .ok (.lconst 0, 1) := by decide +kernel
theorem dX1_begin_32 : decode cX1_begin 32 = .ok (.lastore, 1) := by decide +kernel
theorem dX1_begin_33 : decode cX1_begin 33 = .ok (.iinc 3 1, 3) := by decide +kernel
theorem dX1_begin_36 : decode cX1_begin 36 = .ok (.goto (-16), 3) := by decide +kernel
theorem dX1_begin_39 : decode cX1_begin 39 = .ok (.return_, 1) := by decide +kernel
theorem dX1_put_0 : decode cX1_put 0 = .ok (.aload_n 0, 1) := by decide +kernel
theorem dX1_put_1 : decode cX1_put 1 = .ok (.getfield 16, 3) := by decide +kernel
theorem dX1_put_4 : decode cX1_put 4 = .ok (.iload_n 1, 1) := by decide +kernel
theorem dX1_put_5 : decode cX1_put 5 = .ok (.aload_n 0, 1) := by decide +kernel
theorem dX1_put_6 : decode cX1_put 6 = .ok (.getfield 7, 3) := by decide +kernel
theorem dX1_put_9 : decode cX1_put 9 = .ok (.bipush 8, 2) := by decide +kernel
theorem dX1_put_11 : decode cX1_put 11 = .ok (.if_icmp .ne 10, 3) := by decide +kernel
theorem dX1_put_14 : decode cX1_put 14 = .ok (.lload_n 2, 1) := by decide +kernel
theorem dX1_put_15 : decode cX1_put 15 = .ok (.l2i, 1) := by decide +kernel
theorem dX1_put_16 : decode cX1_put 16 = .ok (.i2b, 1) := by decide +kernel
theorem dX1_put_17 : decode cX1_put 17 = .ok (.i2l, 1) := by decide +kernel
theorem dX1_put_18 : decode cX1_put 18 = .ok (.goto 20, 3) := by decide +kernel
theorem dX1_put_21 : decode cX1_put 21 = .ok (.aload_n 0, 1) := by decide +kernel
theorem dX1_put_22 : decode cX1_put 22 = .ok (.getfield 7, 3) := by decide +kernel
theorem dX1_put_25 : decode cX1_put 25 = .ok (.bipush 16, 2) := by decide +kernel
theorem dX1_put_27 : decode cX1_put 27 = .ok (.if_icmp .ne 10, 3) := by decide +kernel
theorem dX1_put_30 : decode cX1_put 30 = .ok (.lload_n 2, 1) := by decide +kernel
theorem dX1_put_31 : decode cX1_put 31 = .ok (.l2i, 1) := by decide +kernel
theorem dX1_put_32 : decode cX1_put 32 = .ok (.i2s, 1) := by decide +kernel
theorem dX1_put_33 : decode cX1_put 33 = .ok (.i2l, 1) := by decide +kernel
theorem dX1_put_34 : decode cX1_put 34 = .ok (.goto 4, 3) := by decide +kernel
theorem dX1_put_37 : decode cX1_put 37 = .ok (.lload_n 2, 1) := by decide +kernel
theorem dX1_put_38 : decode cX1_put 38 = .ok (.lastore, 1) := by decide +kernel
theorem dX1_put_39 : decode cX1_put 39 = .ok (.return_, 1) := by decide +kernel
theorem dX1_hasRange_0 : decode cX1_hasRange 0 = .ok (.iload_n 1, 1) := by decide +kernel
theorem dX1_hasRange_1 : decode cX1_hasRange 1 = .ok (.ifCond .lt 29, 3) := by decide +kernel
theorem dX1_hasRange_4 : decode cX1_hasRange 4 = .ok (.iload_n 2, 1) := by decide +kernel
theorem dX1_hasRange_5 : decode cX1_hasRange 5 = .ok (.ifCond .lt 25, 3) := by decide +kernel
theorem dX1_hasRange_8 : decode cX1_hasRange 8 = .ok (.iload_n 2, 1) := by decide +kernel
theorem dX1_hasRange_9 : decode cX1_hasRange 9 = .ok (.aload_n 0, 1) := by decide +kernel
theorem dX1_hasRange_10 : decode cX1_hasRange 10 = .ok (.getfield 13, 3) := by decide +kernel
theorem dX1_hasRange_13 : decode cX1_hasRange 13 = .ok (.if_icmp .gt 17, 3) := by decide +kernel
theorem dX1_hasRange_16 : decode cX1_hasRange 16 = .ok (.iload_n 1, 1) := by decide +kernel
theorem dX1_hasRange_17 : decode cX1_hasRange 17 = .ok (.aload_n 0, 1) := by decide +kernel
theorem dX1_hasRange_18 : decode cX1_hasRange 18 = .ok (.getfield 13, 3) := by decide +kernel
theorem dX1_hasRange_21 : decode cX1_hasRange 21 = .ok (.iload_n 2, 1) := by decide +kernel
theorem dX1_hasRange_22 : decode cX1_hasRange 22 = .ok (.isub, 1) := by decide +kernel
theorem dX1_hasRange_23 : decode cX1_hasRange 23 = .ok (.if_icmp .gt 7, 3) := by decide +kernel
theorem dX1_hasRange_26 : decode cX1_hasRange 26 = .ok (.iconst 1, 1) := by decide +kernel
theorem dX1_hasRange_27 : decode cX1_hasRange 27 = .ok (.goto 4, 3) := by decide +kernel
theorem dX1_hasRange_30 : decode cX1_hasRange 30 = .ok (.iconst 0, 1) := by decide +kernel
theorem dX1_hasRange_31 : decode cX1_hasRange 31 = .ok (.ireturn, 1) := by decide +kernel
theorem dX2_init_0 : decode cX2_init 0 = .ok (.aload_n 0, 1) := by decide +kernel
theorem dX2_init_1 : decode cX2_init 1 = .ok (.invokespecial 3, 3) := by decide +kernel
theorem dX2_init_4 : decode cX2_init 4 = .ok (.aload_n 0, 1) := by decide +kernel
theorem dX2_init_5 : decode cX2_init 5 = .ok (.bipush 120, 2) := by decide +kernel
theorem dX2_init_7 : decode cX2_init 7 = .ok (.newarray .int, 2) := by decide +kernel
theorem dX2_init_9 : decode cX2_init 9 = .ok (.putfield 11, 3) := by decide +kernel
theorem dX2_init_12 : decode cX2_init 12 = .ok (.aload_n 0, 1) := by decide +kernel
theorem dX2_init_13 : decode cX2_init 13 = .ok (.iconst 0, 1) := by decide +kernel
theorem dX2_init_14 : decode cX2_init 14 = .ok (.putfield 15, 3) := by decide +kernel
theorem dX2_init_17 : decode cX2_init 17 = .ok (.aload_n 0, 1) := by decide +kernel
theorem dX2_init_18 : decode cX2_init 18 = .ok (.iconst 0, 1) := by decide +kernel
theorem dX2_init_19 : decode cX2_init 19 = .ok (.putfield 19, 3) := by decide +kernel
theorem dX2_init_22 : decode cX2_init 22 = .ok (.aload_n 0, 1) := by decide +kernel
theorem dX2_init_23 : decode cX2_init 23 = .ok (.iconst 0, 1) := by decide +kernel
theorem dX2_init_24 : decode cX2_init 24 = .ok (.putfield 22, 3) := by decide +kernel
theorem dX2_init_27 : decode cX2_init 27 = .ok (.aload_n 0, 1) := by decide +kernel
theorem dX2_init_28 : decode cX2_init 28 = .ok (.iconst 0, 1) := by decide +kernel
theorem dX2_init_29 : decode cX2_init 29 = .ok (.putfield 25, 3) := by decide +kernel
theorem dX2_init_32 : decode cX2_init 32 = .ok (.aload_n 0, 1) := by decide +kernel
theorem dX2_init_33 : decode cX2_init 33 = .ok (.iconst 0, 1) := by decide +kernel
theorem dX2_init_34 : decode cX2_init 34 = .ok (.putfield 28, 3) := by decide +kernel
theorem dX2_init_37 : decode cX2_init 37 = .ok (.return_, 1) := by decide +kernel
theorem dX2_addByte_0 : decode cX2_addByte 0 = .ok (.aload_n 0, 1) := by decide +kernel
theorem dX2_addByte_1 : decode cX2_addByte 1 = .ok (.getfield 15, 3) := by decide +kernel
theorem dX2_addByte_4 : decode cX2_addByte 4 = .ok (.bipush 120, 2) := by decide +kernel
theorem dX2_addByte_6 : decode cX2_addByte 6 = .ok (.if_icmp .ge 23, 3) := by decide +kernel
theorem dX2_addByte_9 : decode cX2_addByte 9 = .ok (.aload_n 0, 1) := by decide +kernel
theorem dX2_addByte_10 : decode cX2_addByte 10 = .ok (.getfield 11, 3) := by decide +kernel
theorem dX2_addByte_13 : decode cX2_addByte 13 = .ok (.aload_n 0, 1) := by decide +kernel
theorem dX2_addByte_14 : decode cX2_addByte 14 = .ok (.getfield 15, 3) := by decide +kernel
theorem dX2_addByte_17 : decode cX2_addByte 17 = .ok (.iload_n 1, 1) := by decide +kernel
theorem dX2_addByte_18 : decode cX2_addByte 18 = .ok (.iastore, 1) := by decide +kernel
theorem dX2_addByte_19 : decode cX2_addByte 19 = .ok (.aload_n 0, 1) := by decide +kernel
theorem dX2_addByte_20 : decode cX2_addByte 20 = .ok (.dup, 1) := by decide +kernel
theorem dX2_addByte_21 : decode cX2_addByte 21 = .ok (.getfield 15, 3) := by decide +kernel
theorem dX2_addByte_24 : decode cX2_addByte 24 = .ok (.iconst 1, 1) := by decide +kernel
theorem dX2_addByte_25 : decode cX2_addByte 25 = .ok (.iadd, 1) := by decide +kernel
theorem dX2_addByte_26 : decode cX2_addByte 26 = .ok (.putfield 15, 3) := by decide +kernel
theorem dX2_addByte_29 : decode cX2_addByte 29 = .ok (.return_, 1) := by decide +kernel
theorem dX2_tellTo_0 : decode cX2_tellTo 0 = .ok (.aload_n 0, 1) := by decide +kernel
theorem dX2_tellTo_1 : decode cX2_tellTo 1 = .ok (.iconst 0, 1) := by decide +kernel
theorem dX2_tellTo_2 : decode cX2_tellTo 2 = .ok (.putfield 25, 3) := by decide +kernel
theorem dX2_tellTo_5 : decode cX2_tellTo 5 = .ok (.aload_n 0, 1) := by decide +kernel
theorem dX2_tellTo_6 : decode cX2_tellTo 6 = .ok (.invokevirtual 31, 3) := by decide +kernel
theorem dX2_tellTo_9 : decode cX2_tellTo 9 = .ok (.iconst 1, 1) := by decide +kernel
theorem dX2_tellTo_10 : decode cX2_tellTo 10 = .ok (.istore_n 2, 1) := by decide +kernel
theorem dX2_tellTo_11 : decode cX2_tellTo 11 = .ok (.iload_n 2, 1) := by decide +kernel
theorem dX2_tellTo_12 : decode cX2_tellTo 12 = .ok (.bipush 120, 2) := by decide +kernel
theorem dX2_tellTo_14 : decode cX2_tellTo 14 = .ok (.if_icmp .gt 52, 3) := by decide +kernel
theorem dX2_tellTo_17 : decode cX2_tellTo 17 = .ok (.aload_n 0, 1) := by decide +kernel
theorem dX2_tellTo_18 : decode cX2_tellTo 18 = .ok (.aload_n 1, 1) := by decide +kernel
theorem dX2_tellTo_19 : decode cX2_tellTo 19 = .ok (.invokevirtual 34, 3) := by decide +kernel
theorem dX2_tellTo_22 : decode cX2_tellTo 22 = .ok (.ifCond .ne 10, 3) := by decide +kernel
theorem dX2_tellTo_25 : decode cX2_tellTo 25 = .ok (.iconst (-1), 1) := by decide +kernel
theorem dX2_tellTo_26 : decode cX2_tellTo 26 = .ok (.aload_n 0, 1) := by decide +kernel
theorem dX2_tellTo_27 : decode cX2_tellTo 27 = .ok (.getfield 22, 3) := by decide +kernel
theorem dX2_tellTo_30 : decode cX2_tellTo 30 = .ok (.isub, 1) := by decide +kernel
theorem dX2_tellTo_31 : decode cX2_tellTo 31 = .ok (.ireturn, 1) := by decide +kernel
theorem dX2_tellTo_32 : decode cX2_tellTo 32 = .ok (.aload_n 0, 1) := by decide +kernel
theorem dX2_tellTo_33 : decode cX2_tellTo 33 = .ok (.getfield 19, 3) := by decide +kernel
theorem dX2_tellTo_36 : decode cX2_tellTo 36 = .ok (.ifCond .ne 5, 3) := by decide +kernel
theorem dX2_tellTo_39 : decode cX2_tellTo 39 = .ok (.iload_n 2, 1) := by decide +kernel
theorem dX2_tellTo_40 : decode cX2_tellTo 40 = .ok (.ireturn, 1) := by decide +kernel
theorem dX2_tellTo_41 : decode cX2_tellTo 41 = .ok (.aload_n 0, 1) := by decide +kernel
theorem dX2_tellTo_42 : decode cX2_tellTo 42 = .ok (.getfield 19, 3) := by decide +kernel
theorem dX2_tellTo_45 : decode cX2_tellTo 45 = .ok (.iconst 3, 1) := by decide +kernel
theorem dX2_tellTo_46 : decode cX2_tellTo 46 = .ok (.if_icmp .eq 10, 3) := by decide +kernel
theorem dX2_tellTo_49 : decode cX2_tellTo 49 = .ok (.iconst (-1), 1) := by decide +kernel
theorem dX2_tellTo_50 : decode cX2_tellTo 50 = .ok (.aload_n 0, 1) := by decide +kernel
theorem dX2_tellTo_51 : decode cX2_tellTo 51 = .ok (.getfield 22, 3) := by decide +kernel
theorem dX2_tellTo_54 : decode cX2_tellTo 54 = .ok (.isub, 1) := by decide +kernel
theorem dX2_tellTo_55 : decode cX2_tellTo 55 = .ok (.ireturn, 1) := by decide +kernel
theorem dX2_tellTo_56 : decode cX2_tellTo 56 = .ok (.aload_n 0, 1) := by decide +kernel
theorem dX2_tellTo_57 : decode cX2_tellTo 57 = .ok (.invokevirtual 31, 3) := by decide +kernel
theorem dX2_tellTo_60 : decode cX2_tellTo 60 = .ok (.iinc 2 1, 3) := by decide +kernel
theorem dX2_tellTo_63 : decode cX2_tellTo 63 = .ok (.goto (-52), 3) := by decide +kernel
theorem dX2_tellTo_66 : decode cX2_tellTo 66 = .ok (.iconst (-1), 1) := by decide +kernel
theorem dX2_tellTo_67 : decode cX2_tellTo 67 = .ok (.aload_n 0, 1) := by decide +kernel
theorem dX2_tellTo_68 : decode cX2_tellTo 68 = .ok (.getfield 22, 3) := by decide +kernel
theorem dX2_tellTo_71 : decode cX2_tellTo 71 = .ok (.isub, 1) := by decide +kernel
theorem dX2_tellTo_72 : decode cX2_tellTo 72 = .ok (.ireturn, 1) := by decide +kernel
theorem dX2_tellItem_0 : decode cX2_tellItem 0 = .ok (.aload_n 0, 1) := by decide +kernel
theorem dX2_tellItem_1 : decode cX2_tellItem 1 = .ok (.ldc 38, 2) := by decide +kernel
theorem dX2_tellItem_3 : decode cX2_tellItem 3 = .ok (.invokevirtual 40, 3) := by decide +kernel
theorem dX2_tellItem_6 : decode cX2_tellItem 6 = .ok (.ifCond .eq 9, 3) := by decide +kernel
theorem dX2_tellItem_9 : decode cX2_tellItem 9 = .ok (.aload_n 0, 1) := by decide +kernel
theorem dX2_tellItem_10 : decode cX2_tellItem 10 = .ok (.aload_n 1, 1) := by decide +kernel
theorem dX2_tellItem_11 : decode cX2_tellItem 11 = .ok (.invokevirtual 44, 3) := by decide +kernel
theorem dX2_tellItem_14 : decode cX2_tellItem 14 = .ok (.ireturn, 1) := by decide +kernel
theorem dX2_tellItem_15 : decode cX2_tellItem 15 = .ok (.aload_n 0, 1) := by decide +kernel
theorem dX2_tellItem_16 : decode cX2_tellItem 16 = .ok (.ldc 47, 2) := by decide +kernel
theorem dX2_tellItem_18 : decode cX2_tellItem 18 = .ok (.invokevirtual 40, 3) := by decide +kernel
theorem dX2_tellItem_21 : decode cX2_tellItem 21 = .ok (.ifCond .eq 9, 3) := by decide +kernel
theorem dX2_tellItem_24 : decode cX2_tellItem 24 = .ok (.aload_n 0, 1) := by decide +kernel
theorem dX2_tellItem_25 : decode cX2_tellItem 25 = .ok (.aload_n 1, 1) := by decide +kernel
theorem dX2_tellItem_26 : decode cX2_tellItem 26 = .ok (.invokevirtual 49, 3) := by decide +kernel
theorem dX2_tellItem_29 : decode cX2_tellItem 29 = .ok (.ireturn, 1) := by decide +kernel
theorem dX2_tellItem_30 : decode cX2_tellItem 30 = .ok (.iconst 0, 1) := by decide +kernel
theorem dX2_tellItem_31 : decode cX2_tellItem 31 = .ok (.istore_n 2, 1) := by decide +kernel
theorem dX2_tellItem_32 : decode cX2_tellItem 32 = .ok (.iload_n 2, 1) := by decide +kernel
theorem dX2_tellItem_33 : decode cX2_tellItem 33 = .ok (.bipush 6, 2) := by decide +kernel
theorem dX2_tellItem_35 : decode cX2_tellItem 35 = .ok (.if_icmp .ge 27, 3) := by decide +kernel
theorem dX2_tellItem_38 : decode cX2_tellItem 38 = .ok (.aload_n 0, 1) := by decide +kernel
theorem dX2_tellItem_39 : decode cX2_tellItem 39 = .ok (.iload_n 2, 1) := by decide +kernel
theorem dX2_tellItem_40 : decode cX2_tellItem 40 = .ok (.invokestatic 54, 3) := by decide +kernel
theorem dX2_tellItem_43 : decode cX2_tellItem 43 = .ok (.invokevirtual 40, 3) := by decide +kernel
theorem dX2_tellItem_46 : decode cX2_tellItem 46 = .ok (.ifCond .eq 10, 3) := by decide +kernel
theorem dX2_tellItem_49 : decode cX2_tellItem 49 = .ok (.aload_n 0, 1) := by decide +kernel
theorem dX2_tellItem_50 : decode cX2_tellItem 50 = .ok (.aload_n 1, 1) := by decide +kernel
theorem dX2_tellItem_51 : decode cX2_tellItem 51 = .ok (.iload_n 2, 1) := by decide +kernel
theorem dX2_tellItem_52 : decode cX2_tellItem 52 = .ok (.invokevirtual 58, 3) := by decide +kernel
theorem dX2_tellItem_55 : decode cX2_tellItem 55 = .ok (.ireturn, 1) := by decide +kernel
theorem dX2_tellItem_56 : decode cX2_tellItem 56 = .ok (.iinc 2 1, 3) := by decide +kernel
theorem dX2_tellItem_59 : decode cX2_tellItem 59 = .ok (.goto (-27), 3) := by decide +kernel
theorem dX2_tellItem_62 : decode cX2_tellItem 62 = .ok (.iconst 0, 1) := by decide +kernel
theorem dX2_tellItem_63 : decode cX2_tellItem 63 = .ok (.ireturn, 1) := by decide +kernel
theorem dX2_tellHouse_0 : decode cX2_tellHouse 0 = .ok (.aload_n 0, 1) := by decide +kernel
theorem dX2_tellHouse_1 : decode cX2_tellHouse 1 = .ok (.invokevirtual 31, 3) := by decide +kernel
theorem dX2_tellHouse_4 : decode cX2_tellHouse 4 = .ok (.aload_n 0, 1) := by decide +kernel
theorem dX2_tellHouse_5 : decode cX2_tellHouse 5 = .ok (.bipush 7, 2) := by decide +kernel
theorem dX2_tellHouse_7 : decode cX2_tellHouse 7 = .ok (.invokevirtual 62, 3) := by decide +kernel
theorem dX2_tellHouse_10 : decode cX2_tellHouse 10 = .ok (.istore_n 2, 1) := by decide +kernel
theorem dX2_tellHouse_11 : decode cX2_tellHouse 11 = .ok (.iload_n 2, 1) := by decide +kernel
theorem dX2_tellHouse_12 : decode cX2_tellHouse 12 = .ok (.ifCond .lt 55, 3) := by decide +kernel
theorem dX2_tellHouse_15 : decode cX2_tellHouse 15 = .ok (.aload_n 0, 1) := by decide +kernel
theorem dX2_tellHouse_16 : decode cX2_tellHouse 16 = .ok (.ldc 66, 2) := by decide +kernel
theorem dX2_tellHouse_18 : decode cX2_tellHouse 18 = .ok (.iconst 3, 1) := by decide +kernel
theorem dX2_tellHouse_19 : decode cX2_tellHouse 19 = .ok (.aload_n 1, 1) := by decide +kernel
theorem dX2_tellHouse_20 : decode cX2_tellHouse 20 = .ok (.getfield 68, 3) := by decide +kernel
theorem dX2_tellHouse_23 : decode cX2_tellHouse 23 = .ok (.iload_n 2, 1) := by decide +kernel
theorem dX2_tellHouse_24 : decode cX2_tellHouse 24 = .ok (.invokevirtual 72, 3) := by decide +kernel
theorem dX2_tellHouse_27 : decode cX2_tellHouse 27 = .ok (.ifCond .eq 40, 3) := by decide +kernel
theorem dX2_tellHouse_30 : decode cX2_tellHouse 30 = .ok (.aload_n 0, 1) := by decide +kernel
theorem dX2_tellHouse_31 : decode cX2_tellHouse 31 = .ok (.ldc 76, 2) := by decide +kernel
theorem dX2_tellHouse_33 : decode cX2_tellHouse 33 = .ok (.sipush 999, 3) := by decide +kernel
theorem dX2_tellHouse_36 : decode cX2_tellHouse 36 = .ok (.aload_n 1, 1) := by decide +kernel
theorem dX2_tellHouse_37 : decode cX2_tellHouse 37 = .ok (.getfield 78, 3) := by decide +kernel
theorem dX2_tellHouse_40 : decode cX2_tellHouse 40 = .ok (.iload_n 2, 1) := by decide +kernel
theorem dX2_tellHouse_41 : decode cX2_tellHouse 41 = .ok (.invokevirtual 72, 3) := by decide +kernel
theorem dX2_tellHouse_44 : decode cX2_tellHouse 44 = .ok (.ifCond .eq 23, 3) := by decide +kernel
theorem dX2_tellHouse_47 : decode cX2_tellHouse 47 = .ok (.aload_n 0, 1) := by decide +kernel
theorem dX2_tellHouse_48 : decode cX2_tellHouse 48 = .ok (.ldc 81, 2) := by decide +kernel
theorem dX2_tellHouse_50 : decode cX2_tellHouse 50 = .ok (.bipush 9, 2) := by decide +kernel
theorem dX2_tellHouse_52 : decode cX2_tellHouse 52 = .ok (.aload_n 1, 1) := by decide +kernel
theorem dX2_tellHouse_53 : decode cX2_tellHouse 53 = .ok (.getfield 83, 3) := by decide +kernel
theorem dX2_tellHouse_56 : decode cX2_tellHouse 56 = .ok (.iload_n 2, 1) := by decide +kernel
theorem dX2_tellHouse_57 : decode cX2_tellHouse 57 = .ok (.invokevirtual 72, 3) := by decide +kernel
theorem dX2_tellHouse_60 : decode cX2_tellHouse 60 = .ok (.ifCond .eq 7, 3) := by decide +kernel
theorem dX2_tellHouse_63 : decode cX2_tellHouse 63 = .ok (.iconst 1, 1) := by decide +kernel
theorem dX2_tellHouse_64 : decode cX2_tellHouse 64 = .ok (.goto 4, 3) := by decide +kernel
theorem dX2_tellHouse_67 : decode cX2_tellHouse 67 = .ok (.iconst 0, 1) := by decide +kernel
theorem dX2_tellHouse_68 : decode cX2_tellHouse 68 = .ok (.ireturn, 1) := by decide +kernel
theorem dX2_tellTrue_0 : decode cX2_tellTrue 0 = .ok (.aload_n 0, 1) := by decide +kernel
theorem dX2_tellTrue_1 : decode cX2_tellTrue 1 = .ok (.invokevirtual 31, 3) := by decide +kernel
theorem dX2_tellTrue_4 : decode cX2_tellTrue 4 = .ok (.aload_n 0, 1) := by decide +kernel
theorem dX2_tellTrue_5 : decode cX2_tellTrue 5 = .ok (.bipush 15, 2) := by decide +kernel
theorem dX2_tellTrue_7 : decode cX2_tellTrue 7 = .ok (.invokevirtual 62, 3) := by decide +kernel
theorem dX2_tellTrue_10 : decode cX2_tellTrue 10 = .ok (.istore_n 2, 1) := by decide +kernel
theorem dX2_tellTrue_11 : decode cX2_tellTrue 11 = .ok (.iload_n 2, 1) := by decide +kernel
theorem dX2_tellTrue_12 : decode cX2_tellTrue 12 = .ok (.ifCond .ge 5, 3) := by decide +kernel
theorem dX2_tellTrue_15 : decode cX2_tellTrue 15 = .ok (.iconst 0, 1) := by decide +kernel
theorem dX2_tellTrue_16 : decode cX2_tellTrue 16 = .ok (.ireturn, 1) := by decide +kernel
theorem dX2_tellTrue_17 : decode cX2_tellTrue 17 = .ok (.aload_n 1, 1) := by decide +kernel
theorem dX2_tellTrue_18 : decode cX2_tellTrue 18 = .ok (.iload_n 2, 1) := by decide +kernel
theorem dX2_tellTrue_19 : decode cX2_tellTrue 19 = .ok (.invokevirtual 85, 3) := by decide +kernel
theorem dX2_tellTrue_22 : decode cX2_tellTrue 22 = .ok (.pop, 1) := by decide +kernel
theorem dX2_tellTrue_23 : decode cX2_tellTrue 23 = .ok (.iconst 1, 1) := by decide +kernel
theorem dX2_tellTrue_24 : decode cX2_tellTrue 24 = .ok (.ireturn, 1) := by decide +kernel
theorem dX2_tellRumour_0 : decode cX2_tellRumour 0 = .ok (.aload_n 1, 1) := by decide +kernel
theorem dX2_tellRumour_1 : decode cX2_tellRumour 1 = .ok (.invokevirtual 88, 3) := by decide +kernel
theorem dX2_tellRumour_4 : decode cX2_tellRumour 4 = .ok (.ifCond .eq 5, 3) := by decide +kernel
theorem dX2_tellRumour_7 : decode cX2_tellRumour 7 = .ok (.iconst 0, 1) := by decide +kernel
theorem dX2_tellRumour_8 : decode cX2_tellRumour 8 = .ok (.ireturn, 1) := by decide +kernel
theorem dX2_tellRumour_9 : decode cX2_tellRumour 9 = .ok (.aload_n 0, 1) := by decide +kernel
theorem dX2_tellRumour_10 : decode cX2_tellRumour 10 = .ok (.invokevirtual 31, 3) := by decide +kernel
theorem dX2_tellRumour_13 : decode cX2_tellRumour 13 = .ok (.aload_n 0, 1) := by decide +kernel
theorem dX2_tellRumour_14 : decode cX2_tellRumour 14 = .ok (.ldc 92, 2) := by decide +kernel
theorem dX2_tellRumour_16 : decode cX2_tellRumour 16 = .ok (.invokevirtual 40, 3) := by decide +kernel
theorem dX2_tellRumour_19 : decode cX2_tellRumour 19 = .ok (.ifCond .ne 5, 3) := by decide +kernel
theorem dX2_tellRumour_22 : decode cX2_tellRumour 22 = .ok (.iconst 0, 1) := by decide +kernel
theorem dX2_tellRumour_23 : decode cX2_tellRumour 23 = .ok (.ireturn, 1) := by decide +kernel
theorem dX2_tellRumour_24 : decode cX2_tellRumour 24 = .ok (.aload_n 0, 1) := by decide +kernel
theorem dX2_tellRumour_25 : decode cX2_tellRumour 25 = .ok (.invokevirtual 31, 3) := by decide +kernel
theorem dX2_tellRumour_28 : decode cX2_tellRumour 28 = .ok (.aload_n 0, 1) := by decide +kernel
theorem dX2_tellRumour_29 : decode cX2_tellRumour 29 = .ok (.bipush 15, 2) := by decide +kernel
theorem dX2_tellRumour_31 : decode cX2_tellRumour 31 = .ok (.invokevirtual 62, 3) := by decide +kernel
theorem dX2_tellRumour_34 : decode cX2_tellRumour 34 = .ok (.istore_n 3, 1) := by decide +kernel
theorem dX2_tellRumour_35 : decode cX2_tellRumour 35 = .ok (.iload_n 3, 1) := by decide +kernel
theorem dX2_tellRumour_36 : decode cX2_tellRumour 36 = .ok (.ifCond .ge 5, 3) := by decide +kernel
theorem dX2_tellRumour_39 : decode cX2_tellRumour 39 = .ok (.iconst 0, 1) := by decide +kernel
theorem dX2_tellRumour_40 : decode cX2_tellRumour 40 = .ok (.ireturn, 1) := by decide +kernel
theorem dX2_tellRumour_41 : decode cX2_tellRumour 41 = .ok (.aload_n 1, 1) := by decide +kernel
theorem dX2_tellRumour_42 : decode cX2_tellRumour 42 = .ok (.iload_n 2, 1) := by decide +kernel
theorem dX2_tellRumour_43 : decode cX2_tellRumour 43 = .ok (.iload_n 3, 1) := by decide +kernel
theorem dX2_tellRumour_44 : decode cX2_tellRumour 44 = .ok (.bipush 10, 2) := by decide +kernel
theorem dX2_tellRumour_46 : decode cX2_tellRumour 46 = .ok (.invokevirtual 94, 3) := by decide +kernel
theorem dX2_tellRumour_49 : decode cX2_tellRumour 49 = .ok (.istore 4, 2) := by decide +kernel
theorem dX2_tellRumour_51 : decode cX2_tellRumour 51 = .ok (.iload 4, 2) := by decide +kernel
theorem dX2_tellRumour_53 : decode cX2_tellRumour 53 = .ok (.ifCond .lt 34, 3) := by decide +kernel
theorem dX2_tellRumour_56 : decode cX2_tellRumour 56 = .ok (.aload_n 0, 1) := by decide +kernel
theorem dX2_tellRumour_57 : decode cX2_tellRumour 57 = .ok (.ldc 98, 2) := by decide +kernel
theorem dX2_tellRumour_59 : decode cX2_tellRumour 59 = .ok (.bipush 99, 2) := by decide +kernel
theorem dX2_tellRumour_61 : decode cX2_tellRumour 61 = .ok (.aload_n 1, 1) := by decide +kernel
theorem dX2_tellRumour_62 : decode cX2_tellRumour 62 = .ok (.getfield 100, 3) := by decide +kernel
theorem dX2_tellRumour_65 : decode cX2_tellRumour 65 = .ok (.iload 4, 2) := by decide +kernel
theorem dX2_tellRumour_67 : decode cX2_tellRumour 67 = .ok (.invokevirtual 72, 3) := by decide +kernel
theorem dX2_tellRumour_70 : decode cX2_tellRumour 70 = .ok (.ifCond .eq 17, 3) := by decide +kernel
theorem dX2_tellRumour_73 : decode cX2_tellRumour 73 = .ok (.aload_n 0, 1) := by decide +kernel
theorem dX2_tellRumour_74 : decode cX2_tellRumour 74 = .ok (.aload_n 1, 1) := by decide +kernel
theorem dX2_tellRumour_75 : decode cX2_tellRumour 75 = .ok (.iload 4, 2) := by decide +kernel
theorem dX2_tellRumour_77 : decode cX2_tellRumour 77 = .ok (.invokevirtual 103, 3) := by decide +kernel
theorem dX2_tellRumour_80 : decode cX2_tellRumour 80 = .ok (.ifCond .eq 7, 3) := by decide +kernel
theorem dX2_tellRumour_83 : decode cX2_tellRumour 83 = .ok (.iconst 1, 1) := by decide +kernel
theorem dX2_tellRumour_84 : decode cX2_tellRumour 84 = .ok (.goto 4, 3) := by decide +kernel
theorem dX2_tellRumour_87 : decode cX2_tellRumour 87 = .ok (.iconst 0, 1) := by decide +kernel
theorem dX2_tellRumour_88 : decode cX2_tellRumour 88 = .ok (.ireturn, 1) := by decide +kernel
theorem dX2_tellPart_0 : decode cX2_tellPart 0 = .ok (.aload_n 0, 1) := by decide +kernel
theorem dX2_tellPart_1 : decode cX2_tellPart 1 = .ok (.aload_n 1, 1) := by decide +kernel
theorem dX2_tellPart_2 : decode cX2_tellPart 2 = .ok (.invokevirtual 40, 3) := by decide +kernel
theorem dX2_tellPart_5 : decode cX2_tellPart 5 = .ok (.ifCond .ne 5, 3) := by decide +kernel
theorem dX2_tellPart_8 : decode cX2_tellPart 8 = .ok (.iconst 1, 1) := by decide +kernel
theorem dX2_tellPart_9 : decode cX2_tellPart 9 = .ok (.ireturn, 1) := by decide +kernel
theorem dX2_tellPart_10 : decode cX2_tellPart 10 = .ok (.aload_n 0, 1) := by decide +kernel
theorem dX2_tellPart_11 : decode cX2_tellPart 11 = .ok (.invokevirtual 31, 3) := by decide +kernel
theorem dX2_tellPart_14 : decode cX2_tellPart 14 = .ok (.aload_n 0, 1) := by decide +kernel
theorem dX2_tellPart_15 : decode cX2_tellPart 15 = .ok (.iload_n 2, 1) := by decide +kernel
theorem dX2_tellPart_16 : decode cX2_tellPart 16 = .ok (.invokevirtual 106, 3) := by decide +kernel
theorem dX2_tellPart_19 : decode cX2_tellPart 19 = .ok (.ifCond .ne 5, 3) := by decide +kernel
theorem dX2_tellPart_22 : decode cX2_tellPart 22 = .ok (.iconst 0, 1) := by decide +kernel
theorem dX2_tellPart_23 : decode cX2_tellPart 23 = .ok (.ireturn, 1) := by decide +kernel
theorem dX2_tellPart_24 : decode cX2_tellPart 24 = .ok (.aload_n 3, 1) := by decide +kernel
theorem dX2_tellPart_25 : decode cX2_tellPart 25 = .ok (.iload 4, 2) := by decide +kernel
theorem dX2_tellPart_27 : decode cX2_tellPart 27 = .ok (.aload_n 0, 1) := by decide +kernel
theorem dX2_tellPart_28 : decode cX2_tellPart 28 = .ok (.getfield 28, 3) := by decide +kernel
theorem dX2_tellPart_31 : decode cX2_tellPart 31 = .ok (.iastore, 1) := by decide +kernel
theorem dX2_tellPart_32 : decode cX2_tellPart 32 = .ok (.aload_n 0, 1) := by decide +kernel
theorem dX2_tellPart_33 : decode cX2_tellPart 33 = .ok (.invokevirtual 31, 3) := by decide +kernel
theorem dX2_tellPart_36 : decode cX2_tellPart 36 = .ok (.iconst 1, 1) := by decide +kernel
theorem dX2_tellPart_37 : decode cX2_tellPart 37 = .ok (.ireturn, 1) := by decide +kernel
theorem dX2_tellLodging_0 : decode cX2_tellLodging 0 = .ok (.aload_n 0, 1) := by decide +kernel
theorem dX2_tellLodging_1 : decode cX2_tellLodging 1 = .ok (.ldc 110, 2) := by decide +kernel
theorem dX2_tellLodging_3 : decode cX2_tellLodging 3 = .ok (.invokevirtual 40, 3) := by decide +kernel
theorem dX2_tellLodging_6 : decode cX2_tellLodging 6 = .ok (.ifCond .ne 5, 3) := by decide +kernel
theorem dX2_tellLodging_9 : decode cX2_tellLodging 9 = .ok (.iconst 1, 1) := by decide +kernel
theorem dX2_tellLodging_10 : decode cX2_tellLodging 10 = .ok (.ireturn, 1) := by decide +kernel
theorem dX2_tellLodging_11 : decode cX2_tellLodging 11 = .ok (.aload_n 0, 1) := by decide +kernel
theorem dX2_tellLodging_12 : decode cX2_tellLodging 12 = .ok (.invokevirtual 31, 3) := by decide +kernel
theorem dX2_tellLodging_15 : decode cX2_tellLodging 15 = .ok (.aload_n 0, 1) := by decide +kernel
theorem dX2_tellLodging_16 : decode cX2_tellLodging 16 = .ok (.bipush 7, 2) := by decide +kernel
theorem dX2_tellLodging_18 : decode cX2_tellLodging 18 = .ok (.invokevirtual 106, 3) := by decide +kernel
theorem dX2_tellLodging_21 : decode cX2_tellLodging 21 = .ok (.ifCond .eq 14, 3) := by decide +kernel
theorem dX2_tellLodging_24 : decode cX2_tellLodging 24 = .ok (.aload_n 1, 1) := by decide +kernel
theorem dX2_tellLodging_25 : decode cX2_tellLodging 25 = .ok (.aload_n 0, 1) := by decide +kernel
theorem dX2_tellLodging_26 : decode cX2_tellLodging 26 = .ok (.getfield 28, 3) := by decide +kernel
theorem dX2_tellLodging_29 : decode cX2_tellLodging 29 = .ok (.invokevirtual 112, 3) := by decide +kernel
theorem dX2_tellLodging_32 : decode cX2_tellLodging 32 = .ok (.ifCond .ne 5, 3) := by decide +kernel
theorem dX2_tellLodging_35 : decode cX2_tellLodging 35 = .ok (.iconst 0, 1) := by decide +kernel
theorem dX2_tellLodging_36 : decode cX2_tellLodging 36 = .ok (.ireturn, 1) := by decide +kernel
theorem dX2_tellLodging_37 : decode cX2_tellLodging 37 = .ok (.aload_n 1, 1) := by decide +kernel
theorem dX2_tellLodging_38 : decode cX2_tellLodging 38 = .ok (.iload_n 2, 1) := by decide +kernel
theorem dX2_tellLodging_39 : decode cX2_tellLodging 39 = .ok (.aload_n 0, 1) := by decide +kernel
theorem dX2_tellLodging_40 : decode cX2_tellLodging 40 = .ok (.getfield 28, 3) := by decide +kernel
theorem dX2_tellLodging_43 : decode cX2_tellLodging 43 = .ok (.invokevirtual 115, 3) := by decide +kernel
theorem dX2_tellLodging_46 : decode cX2_tellLodging 46 = .ok (.aload_n 0, 1) := by decide +kernel
theorem dX2_tellLodging_47 : decode cX2_tellLodging 47 = .ok (.invokevirtual 31, 3) := by decide +kernel
theorem dX2_tellLodging_50 : decode cX2_tellLodging 50 = .ok (.iconst 1, 1) := by decide +kernel
theorem dX2_tellLodging_51 : decode cX2_tellLodging 51 = .ok (.ireturn, 1) := by decide +kernel
theorem dX2_passNumber_0 : decode cX2_passNumber 0 = .ok (.aload_n 0, 1) := by decide +kernel
theorem dX2_passNumber_1 : decode cX2_passNumber 1 = .ok (.iload_n 1, 1) := by decide +kernel
theorem dX2_passNumber_2 : decode cX2_passNumber 2 = .ok (.invokevirtual 106, 3) := by decide +kernel
theorem dX2_passNumber_5 : decode cX2_passNumber 5 = .ok (.ifCond .ne 5, 3) := by decide +kernel
theorem dX2_passNumber_8 : decode cX2_passNumber 8 = .ok (.iconst (-1), 1) := by decide +kernel
theorem dX2_passNumber_9 : decode cX2_passNumber 9 = .ok (.ireturn, 1) := by decide +kernel
theorem dX2_passNumber_10 : decode cX2_passNumber 10 = .ok (.aload_n 0, 1) := by decide +kernel
theorem dX2_passNumber_11 : decode cX2_passNumber 11 = .ok (.getfield 28, 3) := by decide +kernel
theorem dX2_passNumber_14 : decode cX2_passNumber 14 = .ok (.istore_n 2, 1) := by decide +kernel
theorem dX2_passNumber_15 : decode cX2_passNumber 15 = .ok (.aload_n 0, 1) := by decide +kernel
theorem dX2_passNumber_16 : decode cX2_passNumber 16 = .ok (.invokevirtual 31, 3) := by decide +kernel
theorem dX2_passNumber_19 : decode cX2_passNumber 19 = .ok (.iload_n 2, 1) := by decide +kernel
theorem dX2_passNumber_20 : decode cX2_passNumber 20 = .ok (.ireturn, 1) := by decide +kernel
theorem dX2_isNumber_0 : decode cX2_isNumber 0 = .ok (.aload_n 0, 1) := by decide +kernel
theorem dX2_isNumber_1 : decode cX2_isNumber 1 = .ok (.getfield 19, 3) := by decide +kernel
theorem dX2_isNumber_4 : decode cX2_isNumber 4 = .ok (.iconst 2, 1) := by decide +kernel
theorem dX2_isNumber_5 : decode cX2_isNumber 5 = .ok (.if_icmp .ne 15, 3) := by decide +kernel
theorem dX2_isNumber_8 : decode cX2_isNumber 8 = .ok (.aload_n 0, 1) := by decide +kernel
theorem dX2_isNumber_9 : decode cX2_isNumber 9 = .ok (.getfield 28, 3) := by decide +kernel
theorem dX2_isNumber_12 : decode cX2_isNumber 12 = .ok (.iload_n 1, 1) := by decide +kernel
theorem dX2_isNumber_13 : decode cX2_isNumber 13 = .ok (.if_icmp .gt 7, 3) := by decide +kernel
theorem dX2_isNumber_16 : decode cX2_isNumber 16 = .ok (.iconst 1, 1) := by decide +kernel
theorem dX2_isNumber_17 : decode cX2_isNumber 17 = .ok (.goto 4, 3) := by decide +kernel
theorem dX2_isNumber_20 : decode cX2_isNumber 20 = .ok (.iconst 0, 1) := by decide +kernel
theorem dX2_isNumber_21 : decode cX2_isNumber 21 = .ok (.ireturn, 1) := by decide +kernel
theorem dX2_isWord_0 : decode cX2_isWord 0 = .ok (.aload_n 0, 1) := by decide +kernel
theorem dX2_isWord_1 : decode cX2_isWord 1 = .ok (.getfield 19, 3) := by decide +kernel
theorem dX2_isWord_4 : decode cX2_isWord 4 = .ok (.iconst 1, 1) := by decide +kernel
theorem dX2_isWord_5 : decode cX2_isWord 5 = .ok (.if_icmp .ne 19, 3) := by decide +kernel
theorem dX2_isWord_8 : decode cX2_isWord 8 = .ok (.aload_n 0, 1) := by decide +kernel
theorem dX2_isWord_9 : decode cX2_isWord 9 = .ok (.getfield 25, 3) := by decide +kernel
theorem dX2_isWord_12 : decode cX2_isWord 12 = .ok (.aload_n 0, 1) := by decide +kernel
theorem dX2_isWord_13 : decode cX2_isWord 13 = .ok (.getfield 22, 3) := by decide +kernel
theorem dX2_isWord_16 : decode cX2_isWord 16 = .ok (.isub, 1) := by decide +kernel
theorem dX2_isWord_17 : decode cX2_isWord 17 = .ok (.aload_n 1, 1) := by decide +kernel
theorem dX2_isWord_18 : decode cX2_isWord 18 = .ok (.invokevirtual 119, 3) := by decide +kernel
theorem dX2_isWord_21 : decode cX2_isWord 21 = .ok (.if_icmp .eq 5, 3) := by decide +kernel
theorem dX2_isWord_24 : decode cX2_isWord 24 = .ok (.iconst 0, 1) := by decide +kernel
theorem dX2_isWord_25 : decode cX2_isWord 25 = .ok (.ireturn, 1) := by decide +kernel
theorem dX2_isWord_26 : decode cX2_isWord 26 = .ok (.iconst 0, 1) := by decide +kernel
theorem dX2_isWord_27 : decode cX2_isWord 27 = .ok (.istore_n 2, 1) := by decide +kernel
theorem dX2_isWord_28 : decode cX2_isWord 28 = .ok (.iload_n 2, 1) := by decide +kernel
theorem dX2_isWord_29 : decode cX2_isWord 29 = .ok (.aload_n 1, 1) := by decide +kernel
theorem dX2_isWord_30 : decode cX2_isWord 30 = .ok (.invokevirtual 119, 3) := by decide +kernel
theorem dX2_isWord_33 : decode cX2_isWord 33 = .ok (.if_icmp .ge 30, 3) := by decide +kernel
theorem dX2_isWord_36 : decode cX2_isWord 36 = .ok (.aload_n 0, 1) := by decide +kernel
theorem dX2_isWord_37 : decode cX2_isWord 37 = .ok (.getfield 11, 3) := by decide +kernel
theorem dX2_isWord_40 : decode cX2_isWord 40 = .ok (.aload_n 0, 1) := by decide +kernel
theorem dX2_isWord_41 : decode cX2_isWord 41 = .ok (.getfield 22, 3) := by decide +kernel
theorem dX2_isWord_44 : decode cX2_isWord 44 = .ok (.iload_n 2, 1) := by decide +kernel
theorem dX2_isWord_45 : decode cX2_isWord 45 = .ok (.iadd, 1) := by decide +kernel
theorem dX2_isWord_46 : decode cX2_isWord 46 = .ok (.iaload, 1) := by decide +kernel
theorem dX2_isWord_47 : decode cX2_isWord 47 = .ok (.aload_n 1, 1) := by decide +kernel
theorem dX2_isWord_48 : decode cX2_isWord 48 = .ok (.iload_n 2, 1) := by decide +kernel
theorem dX2_isWord_49 : decode cX2_isWord 49 = .ok (.invokevirtual 124, 3) := by decide +kernel
theorem dX2_isWord_52 : decode cX2_isWord 52 = .ok (.if_icmp .eq 5, 3) := by decide +kernel
theorem dX2_isWord_55 : decode cX2_isWord 55 = .ok (.iconst 0, 1) := by decide +kernel
theorem dX2_isWord_56 : decode cX2_isWord 56 = .ok (.ireturn, 1) := by decide +kernel
theorem dX2_isWord_57 : decode cX2_isWord 57 = .ok (.iinc 2 1, 3) := by decide +kernel
theorem dX2_isWord_60 : decode cX2_isWord 60 = .ok (.goto (-32), 3) := by decide +kernel
theorem dX2_isWord_63 : decode cX2_isWord 63 = .ok (.iconst 1, 1) := by decide +kernel
theorem dX2_isWord_64 : decode cX2_isWord 64 = .ok (.ireturn, 1) := by decide +kernel
theorem dX2_nextToken_0 : decode cX2_nextToken 0 = .ok (.aload_n 0, 1) := by decide +kernel
theorem dX2_nextToken_1 : decode cX2_nextToken 1 = .ok (.getfield 25, 3) := by decide +kernel
theorem dX2_nextToken_4 : decode cX2_nextToken 4 = .ok (.aload_n 0, 1) := by decide +kernel
theorem dX2_nextToken_5 : decode cX2_nextToken 5 = .ok (.getfield 15, 3) := by decide +kernel
theorem dX2_nextToken_8 : decode cX2_nextToken 8 = .ok (.if_icmp .ge 32, 3) := by decide +kernel
theorem dX2_nextToken_11 : decode cX2_nextToken 11 = .ok (.aload_n 0, 1) := by decide +kernel
theorem dX2_nextToken_12 : decode cX2_nextToken 12 = .ok (.getfield 11, 3) := by decide +kernel
theorem dX2_nextToken_15 : decode cX2_nextToken 15 = .ok (.aload_n 0, 1) := by decide +kernel
theorem dX2_nextToken_16 : decode cX2_nextToken 16 = .ok (.getfield 25, 3) := by decide +kernel
theorem dX2_nextToken_19 : decode cX2_nextToken 19 = .ok (.iaload, 1) := by decide +kernel
theorem dX2_nextToken_20 : decode cX2_nextToken 20 = .ok (.invokestatic 128, 3) := by decide +kernel
theorem dX2_nextToken_23 : decode cX2_nextToken 23 = .ok (.iconst 4, 1) := by decide +kernel
theorem dX2_nextToken_24 : decode cX2_nextToken 24 = .ok (.if_icmp .ne 16, 3) := by decide +kernel
theorem dX2_nextToken_27 : decode cX2_nextToken 27 = .ok (.aload_n 0, 1) := by decide +kernel
theorem dX2_nextToken_28 : decode cX2_nextToken 28 = .ok (.dup, 1) := by decide +kernel
theorem dX2_nextToken_29 : decode cX2_nextToken 29 = .ok (.getfield 25, 3) := by decide +kernel
theorem dX2_nextToken_32 : decode cX2_nextToken 32 = .ok (.iconst 1, 1) := by decide +kernel
theorem dX2_nextToken_33 : decode cX2_nextToken 33 = .ok (.iadd, 1) := by decide +kernel
theorem dX2_nextToken_34 : decode cX2_nextToken 34 = .ok (.putfield 25, 3) := by decide +kernel
theorem dX2_nextToken_37 : decode cX2_nextToken 37 = .ok (.goto (-37), 3) := by decide +kernel
theorem dX2_nextToken_40 : decode cX2_nextToken 40 = .ok (.aload_n 0, 1) := by decide +kernel
theorem dX2_nextToken_41 : decode cX2_nextToken 41 = .ok (.aload_n 0, 1) := by decide +kernel
theorem dX2_nextToken_42 : decode cX2_nextToken 42 = .ok (.getfield 25, 3) := by decide +kernel
theorem dX2_nextToken_45 : decode cX2_nextToken 45 = .ok (.putfield 22, 3) := by decide +kernel
theorem dX2_nextToken_48 : decode cX2_nextToken 48 = .ok (.aload_n 0, 1) := by decide +kernel
theorem dX2_nextToken_49 : decode cX2_nextToken 49 = .ok (.iconst 0, 1) := by decide +kernel
theorem dX2_nextToken_50 : decode cX2_nextToken 50 = .ok (.putfield 28, 3) := by decide +kernel
theorem dX2_nextToken_53 : decode cX2_nextToken 53 = .ok (.aload_n 0, 1) := by decide +kernel
theorem dX2_nextToken_54 : decode cX2_nextToken 54 = .ok (.getfield 25, 3) := by decide +kernel
theorem dX2_nextToken_57 : decode cX2_nextToken 57 = .ok (.aload_n 0, 1) := by decide +kernel
theorem dX2_nextToken_58 : decode cX2_nextToken 58 = .ok (.getfield 15, 3) := by decide +kernel
theorem dX2_nextToken_61 : decode cX2_nextToken 61 = .ok (.if_icmp .lt 9, 3) := by decide +kernel
theorem dX2_nextToken_64 : decode cX2_nextToken 64 = .ok (.aload_n 0, 1) := by decide +kernel
theorem dX2_nextToken_65 : decode cX2_nextToken 65 = .ok (.iconst 0, 1) := by decide +kernel
theorem dX2_nextToken_66 : decode cX2_nextToken 66 = .ok (.putfield 19, 3) := by decide +kernel
theorem dX2_nextToken_69 : decode cX2_nextToken 69 = .ok (.return_, 1) := by decide +kernel
theorem dX2_nextToken_70 : decode cX2_nextToken 70 = .ok (.aload_n 0, 1) := by decide +kernel
theorem dX2_nextToken_71 : decode cX2_nextToken 71 = .ok (.aload_n 0, 1) := by decide +kernel
theorem dX2_nextToken_72 : decode cX2_nextToken 72 = .ok (.getfield 11, 3) := by decide +kernel
theorem dX2_nextToken_75 : decode cX2_nextToken 75 = .ok (.aload_n 0, 1) := by decide +kernel
theorem dX2_nextToken_76 : decode cX2_nextToken 76 = .ok (.getfield 25, 3) := by decide +kernel
theorem dX2_nextToken_79 : decode cX2_nextToken 79 = .ok (.iaload, 1) := by decide +kernel
theorem dX2_nextToken_80 : decode cX2_nextToken 80 = .ok (.invokestatic 128, 3) := by decide +kernel
theorem dX2_nextToken_83 : decode cX2_nextToken 83 = .ok (.putfield 19, 3) := by decide +kernel
theorem dX2_nextToken_86 : decode cX2_nextToken 86 = .ok (.aload_n 0, 1) := by decide +kernel
theorem dX2_nextToken_87 : decode cX2_nextToken 87 = .ok (.getfield 19, 3) := by decide +kernel
theorem dX2_nextToken_90 : decode cX2_nextToken 90 = .ok (.iconst 1, 1) := by decide +kernel
theorem dX2_nextToken_91 : decode cX2_nextToken 91 = .ok (.if_icmp .eq 11, 3) := by decide +kernel
theorem dX2_nextToken_94 : decode cX2_nextToken 94 = .ok (.aload_n 0, 1) := by decide +kernel
theorem dX2_nextToken_95 : decode cX2_nextToken 95 = .ok (.getfield 19, 3) := by decide +kernel
theorem dX2_nextToken_98 : decode cX2_nextToken 98 = .ok (.iconst 2, 1) := by decide +kernel
theorem dX2_nextToken_99 : decode cX2_nextToken 99 = .ok (.if_icmp .ne 7, 3) := by decide +kernel
theorem dX2_nextToken_102 : decode cX2_nextToken 102 = .ok (.iconst 1, 1) := by decide +kernel
theorem dX2_nextToken_103 : decode cX2_nextToken 103 = .ok (.goto 4, 3) := by decide +kernel
theorem dX2_nextToken_106 : decode cX2_nextToken 106 = .ok (.iconst 0, 1) := by decide +kernel
theorem dX2_nextToken_107 : decode cX2_nextToken 107 = .ok (.istore_n 1, 1) := by decide +kernel
theorem dX2_nextToken_108 : decode cX2_nextToken 108 = .ok (.aload_n 0, 1) := by decide +kernel
theorem dX2_nextToken_109 : decode cX2_nextToken 109 = .ok (.getfield 19, 3) := by decide +kernel
theorem dX2_nextToken_112 : decode cX2_nextToken 112 = .ok (.iconst 2, 1) := by decide +kernel
theorem dX2_nextToken_113 : decode cX2_nextToken 113 = .ok (.if_icmp .ne 33, 3) := by decide +kernel
theorem dX2_nextToken_116 : decode cX2_nextToken 116 = .ok (.aload_n 0, 1) := by decide +kernel
theorem dX2_nextToken_117 : decode cX2_nextToken 117 = .ok (.sipush 1000, 3) := by decide +kernel
theorem dX2_nextToken_120 : decode cX2_nextToken 120 = .ok (.bipush 10, 2) := by decide +kernel
theorem dX2_nextToken_122 : decode cX2_nextToken 122 = .ok (.aload_n 0, 1) := by decide +kernel
theorem dX2_nextToken_123 : decode cX2_nextToken 123 = .ok (.getfield 28, 3) := by decide +kernel
theorem dX2_nextToken_126 : decode cX2_nextToken 126 = .ok (.imul, 1) := by decide +kernel
theorem dX2_nextToken_127 : decode cX2_nextToken 127 = .ok (.aload_n 0, 1) := by decide +kernel
theorem dX2_nextToken_128 : decode cX2_nextToken 128 = .ok (.getfield 11, 3) := by decide +kernel
theorem dX2_nextToken_131 : decode cX2_nextToken 131 = .ok (.aload_n 0, 1) := by decide +kernel
theorem dX2_nextToken_132 : decode cX2_nextToken 132 = .ok (.getfield 25, 3) := by decide +kernel
theorem dX2_nextToken_135 : decode cX2_nextToken 135 = .ok (.iaload, 1) := by decide +kernel
theorem dX2_nextToken_136 : decode cX2_nextToken 136 = .ok (.iadd, 1) := by decide +kernel
theorem dX2_nextToken_137 : decode cX2_nextToken 137 = .ok (.bipush 48, 2) := by decide +kernel
theorem dX2_nextToken_139 : decode cX2_nextToken 139 = .ok (.isub, 1) := by decide +kernel
theorem dX2_nextToken_140 : decode cX2_nextToken 140 = .ok (.invokestatic 131, 3) := by decide +kernel
theorem dX2_nextToken_143 : decode cX2_nextToken 143 = .ok (.putfield 28, 3) := by decide +kernel
theorem dX2_nextToken_146 : decode cX2_nextToken 146 = .ok (.aload_n 0, 1) := by decide +kernel
theorem dX2_nextToken_147 : decode cX2_nextToken 147 = .ok (.dup, 1) := by decide +kernel
theorem dX2_nextToken_148 : decode cX2_nextToken 148 = .ok (.getfield 25, 3) := by decide +kernel
theorem dX2_nextToken_151 : decode cX2_nextToken 151 = .ok (.iconst 1, 1) := by decide +kernel
theorem dX2_nextToken_152 : decode cX2_nextToken 152 = .ok (.iadd, 1) := by decide +kernel
theorem dX2_nextToken_153 : decode cX2_nextToken 153 = .ok (.putfield 25, 3) := by decide +kernel
theorem dX2_nextToken_156 : decode cX2_nextToken 156 = .ok (.iload_n 1, 1) := by decide +kernel
theorem dX2_nextToken_157 : decode cX2_nextToken 157 = .ok (.ifCond .eq 33, 3) := by decide +kernel
theorem dX2_nextToken_160 : decode cX2_nextToken 160 = .ok (.aload_n 0, 1) := by decide +kernel
theorem dX2_nextToken_161 : decode cX2_nextToken 161 = .ok (.getfield 25, 3) := by decide +kernel
theorem dX2_nextToken_164 : decode cX2_nextToken 164 = .ok (.aload_n 0, 1) := by decide +kernel
theorem dX2_nextToken_165 : decode cX2_nextToken 165 = .ok (.getfield 15, 3) := by decide +kernel
theorem dX2_nextToken_168 : decode cX2_nextToken 168 = .ok (.if_icmp .ge 22, 3) := by decide +kernel
theorem dX2_nextToken_171 : decode cX2_nextToken 171 = .ok (.aload_n 0, 1) := by decide +kernel
theorem dX2_nextToken_172 : decode cX2_nextToken 172 = .ok (.getfield 11, 3) := by decide +kernel
theorem dX2_nextToken_175 : decode cX2_nextToken 175 = .ok (.aload_n 0, 1) := by decide +kernel
theorem dX2_nextToken_176 : decode cX2_nextToken 176 = .ok (.getfield 25, 3) := by decide +kernel
theorem dX2_nextToken_179 : decode cX2_nextToken 179 = .ok (.iaload, 1) := by decide +kernel
theorem dX2_nextToken_180 : decode cX2_nextToken 180 = .ok (.invokestatic 128, 3) := by decide +kernel
theorem dX2_nextToken_183 : decode cX2_nextToken 183 = .ok (.aload_n 0, 1) := by decide +kernel
theorem dX2_nextToken_184 : decode cX2_nextToken 184 = .ok (.getfield 19, 3) := by decide +kernel
theorem dX2_nextToken_187 : decode cX2_nextToken 187 = .ok (.if_icmp .eq (-79), 3) := by decide +kernel
theorem dX2_nextToken_190 : decode cX2_nextToken 190 = .ok (.return_, 1) := by decide +kernel
theorem dX2_sortOf_0 : decode cX2_sortOf 0 = .ok (.iload_n 0, 1) := by decide +kernel
theorem dX2_sortOf_1 : decode cX2_sortOf 1 = .ok (.bipush 97, 2) := by decide +kernel
theorem dX2_sortOf_3 : decode cX2_sortOf 3 = .ok (.if_icmp .lt 11, 3) := by decide +kernel
theorem dX2_sortOf_6 : decode cX2_sortOf 6 = .ok (.iload_n 0, 1) := by decide +kernel
theorem dX2_sortOf_7 : decode cX2_sortOf 7 = .ok (.bipush 122, 2) := by decide +kernel
theorem dX2_sortOf_9 : decode cX2_sortOf 9 = .ok (.if_icmp .gt 5, 3) := by decide +kernel
theorem dX2_sortOf_12 : decode cX2_sortOf 12 = .ok (.iconst 1, 1) := by decide +kernel
theorem dX2_sortOf_13 : decode cX2_sortOf 13 = .ok (.ireturn, 1) := by decide +kernel
theorem dX2_sortOf_14 : decode cX2_sortOf 14 = .ok (.iload_n 0, 1) := by decide +kernel
theorem dX2_sortOf_15 : decode cX2_sortOf 15 = .ok (.bipush 48, 2) := by decide +kernel
theorem dX2_sortOf_17 : decode cX2_sortOf 17 = .ok (.if_icmp .lt 11, 3) := by decide +kernel
theorem dX2_sortOf_20 : decode cX2_sortOf 20 = .ok (.iload_n 0, 1) := by decide +kernel
theorem dX2_sortOf_21 : decode cX2_sortOf 21 = .ok (.bipush 57, 2) := by decide +kernel
theorem dX2_sortOf_23 : decode cX2_sortOf 23 = .ok (.if_icmp .gt 5, 3) := by decide +kernel
theorem dX2_sortOf_26 : decode cX2_sortOf 26 = .ok (.iconst 2, 1) := by decide +kernel
theorem dX2_sortOf_27 : decode cX2_sortOf 27 = .ok (.ireturn, 1) := by decide +kernel
theorem dX2_sortOf_28 : decode cX2_sortOf 28 = .ok (.iload_n 0, 1) := by decide +kernel
theorem dX2_sortOf_29 : decode cX2_sortOf 29 = .ok (.bipush 59, 2) := by decide +kernel
theorem dX2_sortOf_31 : decode cX2_sortOf 31 = .ok (.if_icmp .ne 7, 3) := by decide +kernel
theorem dX2_sortOf_34 : decode cX2_sortOf 34 = .ok (.iconst 3, 1) := by decide +kernel
theorem dX2_sortOf_35 : decode cX2_sortOf 35 = .ok (.goto 14, 3) := by decide +kernel
theorem dX2_sortOf_38 : decode cX2_sortOf 38 = .ok (.iload_n 0, 1) := by decide +kernel
theorem dX2_sortOf_39 : decode cX2_sortOf 39 = .ok (.bipush 32, 2) := by decide +kernel
theorem dX2_sortOf_41 : decode cX2_sortOf 41 = .ok (.if_icmp .ne 7, 3) := by decide +kernel
theorem dX2_sortOf_44 : decode cX2_sortOf 44 = .ok (.iconst 4, 1) := by decide +kernel
theorem dX2_sortOf_45 : decode cX2_sortOf 45 = .ok (.goto 4, 3) := by decide +kernel
theorem dX2_sortOf_48 : decode cX2_sortOf 48 = .ok (.iconst 5, 1) := by decide +kernel
theorem dX2_sortOf_49 : decode cX2_sortOf 49 = .ok (.ireturn, 1) := by decide +kernel
