theorem dX5_wrongLodger_2 : decode cX5_wrongLodger 2 = .ok (.iconst 4, 1) := by decide +kernel
theorem dX5_wrongLodger_3 : decode cX5_wrongLodger 3 = .ok (.invokevirtual 78, 3) := by decide +kernel
theorem dX5_wrongLodger_6 : decode cX5_wrongLodger 6 = .ok (.iconst (-1), 1) := by decide +kernel
theorem dX5_wrongLodger_7 : decode cX5_wrongLodger 7 = .ok (.if_icmp .ne 8, 3) := by decide +kernel
theorem dX5_wrongLodger_10 : decode cX5_wrongLodger 10 = .ok (.ldc 134, 2) := by decide +kernel
theorem dX5_wrongLodger_12 : decode cX5_wrongLodger 12 = .ok (.goto 4, 3) := by decide +kernel
theorem dX5_wrongLodger_15 : decode cX5_wrongLodger 15 = .ok (.iconst 0, 1) := by decide +kernel
theorem dX5_wrongLodger_16 : decode cX5_wrongLodger 16 = .ok (.ireturn, 1) := by decide +kernel
theorem dX5_fewest_0 : decode cX5_fewest 0 = .ok (.aload_n 0, 1) := by decide +kernel
theorem dX5_fewest_1 : decode cX5_fewest 1 = .ok (.iload_n 1, 1) := by decide +kernel
theorem dX5_fewest_2 : decode cX5_fewest 2 = .ok (.invokevirtual 106, 3) := by decide +kernel
theorem dX5_fewest_5 : decode cX5_fewest 5 = .ok (.ifCond .eq 10, 3) := by decide +kernel
theorem dX5_fewest_8 : decode cX5_fewest 8 = .ok (.iload_n 2, 1) := by decide +kernel
theorem dX5_fewest_9 : decode cX5_fewest 9 = .ok (.invokestatic 67, 3) := by decide +kernel
theorem dX5_fewest_12 : decode cX5_fewest 12 = .ok (.ifCond .ne 10, 3) := by decide +kernel
theorem dX5_fewest_15 : decode cX5_fewest 15 = .ok (.aload_n 0, 1) := by decide +kernel
theorem dX5_fewest_16 : decode cX5_fewest 16 = .ok (.ldc 45, 2) := by decide +kernel
theorem dX5_fewest_18 : decode cX5_fewest 18 = .ok (.invokevirtual 74, 3) := by decide +kernel
theorem dX5_fewest_21 : decode cX5_fewest 21 = .ok (.ireturn, 1) := by decide +kernel
theorem dX5_fewest_22 : decode cX5_fewest 22 = .ok (.aload_n 0, 1) := by decide +kernel
theorem dX5_fewest_23 : decode cX5_fewest 23 = .ok (.iload_n 1, 1) := by decide +kernel
theorem dX5_fewest_24 : decode cX5_fewest 24 = .ok (.invokevirtual 200, 3) := by decide +kernel
theorem dX5_fewest_27 : decode cX5_fewest 27 = .ok (.ifCond .eq 10, 3) := by decide +kernel
theorem dX5_fewest_30 : decode cX5_fewest 30 = .ok (.aload_n 0, 1) := by decide +kernel
theorem dX5_fewest_31 : decode cX5_fewest 31 = .ok (.ldc 134, 2) := by decide +kernel
theorem dX5_fewest_33 : decode cX5_fewest 33 = .ok (.invokevirtual 74, 3) := by decide +kernel
theorem dX5_fewest_36 : decode cX5_fewest 36 = .ok (.ireturn, 1) := by decide +kernel
theorem dX5_fewest_37 : decode cX5_fewest 37 = .ok (.aload_n 0, 1) := by decide +kernel
theorem dX5_fewest_38 : decode cX5_fewest 38 = .ok (.invokevirtual 184, 3) := by decide +kernel
theorem dX5_fewest_41 : decode cX5_fewest 41 = .ok (.iconst 0, 1) := by decide +kernel
theorem dX5_fewest_42 : decode cX5_fewest 42 = .ok (.istore_n 3, 1) := by decide +kernel
theorem dX5_fewest_43 : decode cX5_fewest 43 = .ok (.iload_n 3, 1) := by decide +kernel
theorem dX5_fewest_44 : decode cX5_fewest 44 = .ok (.bipush 40, 2) := by decide +kernel
theorem dX5_fewest_46 : decode cX5_fewest 46 = .ok (.if_icmp .gt 25, 3) := by decide +kernel
theorem dX5_fewest_49 : decode cX5_fewest 49 = .ok (.aload_n 0, 1) := by decide +kernel
theorem dX5_fewest_50 : decode cX5_fewest 50 = .ok (.iload_n 1, 1) := by decide +kernel
theorem dX5_fewest_51 : decode cX5_fewest 51 = .ok (.iconst 4, 1) := by decide +kernel
theorem dX5_fewest_52 : decode cX5_fewest 52 = .ok (.invokevirtual 78, 3) := by decide +kernel
theorem dX5_fewest_55 : decode cX5_fewest 55 = .ok (.iload_n 2, 1) := by decide +kernel
theorem dX5_fewest_56 : decode cX5_fewest 56 = .ok (.if_icmp .eq 15, 3) := by decide +kernel
theorem dX5_fewest_59 : decode cX5_fewest 59 = .ok (.aload_n 0, 1) := by decide +kernel
theorem dX5_fewest_60 : decode cX5_fewest 60 = .ok (.iload_n 1, 1) := by decide +kernel
theorem dX5_fewest_61 : decode cX5_fewest 61 = .ok (.iconst 1, 1) := by decide +kernel
theorem dX5_fewest_62 : decode cX5_fewest 62 = .ok (.invokevirtual 143, 3) := by decide +kernel
theorem dX5_fewest_65 : decode cX5_fewest 65 = .ok (.iinc 3 1, 3) := by decide +kernel
theorem dX5_fewest_68 : decode cX5_fewest 68 = .ok (.goto (-25), 3) := by decide +kernel
theorem dX5_fewest_71 : decode cX5_fewest 71 = .ok (.aload_n 0, 1) := by decide +kernel
theorem dX5_fewest_72 : decode cX5_fewest 72 = .ok (.iload_n 3, 1) := by decide +kernel
theorem dX5_fewest_73 : decode cX5_fewest 73 = .ok (.invokevirtual 187, 3) := by decide +kernel
theorem dX5_fewest_76 : decode cX5_fewest 76 = .ok (.istore 4, 2) := by decide +kernel
theorem dX5_fewest_78 : decode cX5_fewest 78 = .ok (.iload 4, 2) := by decide +kernel
theorem dX5_fewest_80 : decode cX5_fewest 80 = .ok (.bipush 40, 2) := by decide +kernel
theorem dX5_fewest_82 : decode cX5_fewest 82 = .ok (.if_icmp .le 12, 3) := by decide +kernel
theorem dX5_fewest_85 : decode cX5_fewest 85 = .ok (.aload_n 0, 1) := by decide +kernel
theorem dX5_fewest_86 : decode cX5_fewest 86 = .ok (.ldc 196, 2) := by decide +kernel
theorem dX5_fewest_88 : decode cX5_fewest 88 = .ok (.invokevirtual 74, 3) := by decide +kernel
theorem dX5_fewest_91 : decode cX5_fewest 91 = .ok (.goto 5, 3) := by decide +kernel
theorem dX5_fewest_94 : decode cX5_fewest 94 = .ok (.iload 4, 2) := by decide +kernel
theorem dX5_fewest_96 : decode cX5_fewest 96 = .ok (.ireturn, 1) := by decide +kernel
theorem dX5_least_0 : decode cX5_least 0 = .ok (.aload_n 0, 1) := by decide +kernel
theorem dX5_least_1 : decode cX5_least 1 = .ok (.iload_n 1, 1) := by decide +kernel
theorem dX5_least_2 : decode cX5_least 2 = .ok (.invokevirtual 106, 3) := by decide +kernel
theorem dX5_least_5 : decode cX5_least 5 = .ok (.ifCond .ne 10, 3) := by decide +kernel
theorem dX5_least_8 : decode cX5_least 8 = .ok (.aload_n 0, 1) := by decide +kernel
theorem dX5_least_9 : decode cX5_least 9 = .ok (.ldc 45, 2) := by decide +kernel
theorem dX5_least_11 : decode cX5_least 11 = .ok (.invokevirtual 74, 3) := by decide +kernel
theorem dX5_least_14 : decode cX5_least 14 = .ok (.ireturn, 1) := by decide +kernel
theorem dX5_least_15 : decode cX5_least 15 = .ok (.aload_n 0, 1) := by decide +kernel
theorem dX5_least_16 : decode cX5_least 16 = .ok (.iload_n 1, 1) := by decide +kernel
theorem dX5_least_17 : decode cX5_least 17 = .ok (.invokevirtual 200, 3) := by decide +kernel
theorem dX5_least_20 : decode cX5_least 20 = .ok (.ifCond .eq 10, 3) := by decide +kernel
theorem dX5_least_23 : decode cX5_least 23 = .ok (.aload_n 0, 1) := by decide +kernel
theorem dX5_least_24 : decode cX5_least 24 = .ok (.ldc 134, 2) := by decide +kernel
theorem dX5_least_26 : decode cX5_least 26 = .ok (.invokevirtual 74, 3) := by decide +kernel
theorem dX5_least_29 : decode cX5_least 29 = .ok (.ireturn, 1) := by decide +kernel
theorem dX5_least_30 : decode cX5_least 30 = .ok (.aload_n 0, 1) := by decide +kernel
theorem dX5_least_31 : decode cX5_least 31 = .ok (.iload_n 1, 1) := by decide +kernel
theorem dX5_least_32 : decode cX5_least 32 = .ok (.iconst 4, 1) := by decide +kernel
theorem dX5_least_33 : decode cX5_least 33 = .ok (.invokevirtual 78, 3) := by decide +kernel
theorem dX5_least_36 : decode cX5_least 36 = .ok (.istore_n 2, 1) := by decide +kernel
theorem dX5_least_37 : decode cX5_least 37 = .ok (.aload_n 0, 1) := by decide +kernel
theorem dX5_least_38 : decode cX5_least 38 = .ok (.invokevirtual 184, 3) := by decide +kernel
theorem dX5_least_41 : decode cX5_least 41 = .ok (.iconst (-1), 1) := by decide +kernel
theorem dX5_least_42 : decode cX5_least 42 = .ok (.istore_n 3, 1) := by decide +kernel
theorem dX5_least_43 : decode cX5_least 43 = .ok (.iconst 1, 1) := by decide +kernel
theorem dX5_least_44 : decode cX5_least 44 = .ok (.istore 4, 2) := by decide +kernel
theorem dX5_least_46 : decode cX5_least 46 = .ok (.iload 4, 2) := by decide +kernel
theorem dX5_least_48 : decode cX5_least 48 = .ok (.bipush 20, 2) := by decide +kernel
theorem dX5_least_50 : decode cX5_least 50 = .ok (.if_icmp .gt 41, 3) := by decide +kernel
theorem dX5_least_53 : decode cX5_least 53 = .ok (.iload_n 3, 1) := by decide +kernel
theorem dX5_least_54 : decode cX5_least 54 = .ok (.ifCond .ge 37, 3) := by decide +kernel
theorem dX5_least_57 : decode cX5_least 57 = .ok (.aload_n 0, 1) := by decide +kernel
theorem dX5_least_58 : decode cX5_least 58 = .ok (.iload_n 1, 1) := by decide +kernel
theorem dX5_least_59 : decode cX5_least 59 = .ok (.iload 4, 2) := by decide +kernel
theorem dX5_least_61 : decode cX5_least 61 = .ok (.invokevirtual 143, 3) := by decide +kernel
theorem dX5_least_64 : decode cX5_least 64 = .ok (.aload_n 0, 1) := by decide +kernel
theorem dX5_least_65 : decode cX5_least 65 = .ok (.aload_n 0, 1) := by decide +kernel
theorem dX5_least_66 : decode cX5_least 66 = .ok (.iload_n 1, 1) := by decide +kernel
theorem dX5_least_67 : decode cX5_least 67 = .ok (.iconst 4, 1) := by decide +kernel
theorem dX5_least_68 : decode cX5_least 68 = .ok (.invokevirtual 78, 3) := by decide +kernel
theorem dX5_least_71 : decode cX5_least 71 = .ok (.iload_n 2, 1) := by decide +kernel
theorem dX5_least_72 : decode cX5_least 72 = .ok (.if_icmp .eq 8, 3) := by decide +kernel
theorem dX5_least_75 : decode cX5_least 75 = .ok (.iload 4, 2) := by decide +kernel
theorem dX5_least_77 : decode cX5_least 77 = .ok (.goto 4, 3) := by decide +kernel
theorem dX5_least_80 : decode cX5_least 80 = .ok (.iconst (-1), 1) := by decide +kernel
theorem dX5_least_81 : decode cX5_least 81 = .ok (.invokevirtual 187, 3) := by decide +kernel
theorem dX5_least_84 : decode cX5_least 84 = .ok (.istore_n 3, 1) := by decide +kernel
theorem dX5_least_85 : decode cX5_least 85 = .ok (.iinc 4 1, 3) := by decide +kernel
theorem dX5_least_88 : decode cX5_least 88 = .ok (.goto (-42), 3) := by decide +kernel
theorem dX5_least_91 : decode cX5_least 91 = .ok (.iload_n 3, 1) := by decide +kernel
theorem dX5_least_92 : decode cX5_least 92 = .ok (.ifCond .ge 12, 3) := by decide +kernel
theorem dX5_least_95 : decode cX5_least 95 = .ok (.aload_n 0, 1) := by decide +kernel
theorem dX5_least_96 : decode cX5_least 96 = .ok (.ldc 196, 2) := by decide +kernel
theorem dX5_least_98 : decode cX5_least 98 = .ok (.invokevirtual 74, 3) := by decide +kernel
theorem dX5_least_101 : decode cX5_least 101 = .ok (.goto 4, 3) := by decide +kernel
theorem dX5_least_104 : decode cX5_least 104 = .ok (.iload_n 3, 1) := by decide +kernel
theorem dX5_least_105 : decode cX5_least 105 = .ok (.ireturn, 1) := by decide +kernel
theorem dX5_isSoon_0 : decode cX5_isSoon 0 = .ok (.iload_n 0, 1) := by decide +kernel
theorem dX5_isSoon_1 : decode cX5_isSoon 1 = .ok (.i2l, 1) := by decide +kernel
theorem dX5_isSoon_2 : decode cX5_isSoon 2 = .ok (.lconst 0, 1) := by decide +kernel
theorem dX5_isSoon_3 : decode cX5_isSoon 3 = .ok (.ldc2_w 141, 3) := by decide +kernel
theorem dX5_isSoon_6 : decode cX5_isSoon 6 = .ok (.invokestatic 48, 3) := by decide +kernel
theorem dX5_isSoon_9 : decode cX5_isSoon 9 = .ok (.ireturn, 1) := by decide +kernel
theorem dX5_best_0 : decode cX5_best 0 = .ok (.iload_n 1, 1) := by decide +kernel
theorem dX5_best_1 : decode cX5_best 1 = .ok (.invokestatic 203, 3) := by decide +kernel
theorem dX5_best_4 : decode cX5_best 4 = .ok (.ifCond .ne 10, 3) := by decide +kernel
theorem dX5_best_7 : decode cX5_best 7 = .ok (.aload_n 0, 1) := by decide +kernel
theorem dX5_best_8 : decode cX5_best 8 = .ok (.ldc 45, 2) := by decide +kernel
theorem dX5_best_10 : decode cX5_best 10 = .ok (.invokevirtual 74, 3) := by decide +kernel
theorem dX5_best_13 : decode cX5_best 13 = .ok (.ireturn, 1) := by decide +kernel
theorem dX5_best_14 : decode cX5_best 14 = .ok (.iconst 0, 1) := by decide +kernel
theorem dX5_best_15 : decode cX5_best 15 = .ok (.istore_n 2, 1) := by decide +kernel
theorem dX5_best_16 : decode cX5_best 16 = .ok (.iconst (-1), 1) := by decide +kernel
theorem dX5_best_17 : decode cX5_best 17 = .ok (.istore_n 3, 1) := by decide +kernel
theorem dX5_best_18 : decode cX5_best 18 = .ok (.aload_n 0, 1) := by decide +kernel
theorem dX5_best_19 : decode cX5_best 19 = .ok (.invokevirtual 184, 3) := by decide +kernel
theorem dX5_best_22 : decode cX5_best 22 = .ok (.iconst 0, 1) := by decide +kernel
theorem dX5_best_23 : decode cX5_best 23 = .ok (.istore 4, 2) := by decide +kernel
theorem dX5_best_25 : decode cX5_best 25 = .ok (.iload 4, 2) := by decide +kernel
theorem dX5_best_27 : decode cX5_best 27 = .ok (.bipush 16, 2) := by decide +kernel
theorem dX5_best_29 : decode cX5_best 29 = .ok (.if_icmp .ge 58, 3) := by decide +kernel
theorem dX5_best_32 : decode cX5_best 32 = .ok (.aload_n 0, 1) := by decide +kernel
theorem dX5_best_33 : decode cX5_best 33 = .ok (.iload 4, 2) := by decide +kernel
theorem dX5_best_35 : decode cX5_best 35 = .ok (.invokevirtual 147, 3) := by decide +kernel
theorem dX5_best_38 : decode cX5_best 38 = .ok (.istore 5, 2) := by decide +kernel
theorem dX5_best_40 : decode cX5_best 40 = .ok (.aload_n 0, 1) := by decide +kernel
theorem dX5_best_41 : decode cX5_best 41 = .ok (.iload_n 1, 1) := by decide +kernel
theorem dX5_best_42 : decode cX5_best 42 = .ok (.invokevirtual 168, 3) := by decide +kernel
theorem dX5_best_45 : decode cX5_best 45 = .ok (.aload_n 0, 1) := by decide +kernel
theorem dX5_best_46 : decode cX5_best 46 = .ok (.aload_n 0, 1) := by decide +kernel
theorem dX5_best_47 : decode cX5_best 47 = .ok (.invokevirtual 175, 3) := by decide +kernel
theorem dX5_best_50 : decode cX5_best 50 = .ok (.invokevirtual 187, 3) := by decide +kernel
theorem dX5_best_53 : decode cX5_best 53 = .ok (.istore 6, 2) := by decide +kernel
theorem dX5_best_55 : decode cX5_best 55 = .ok (.iload 6, 2) := by decide +kernel
theorem dX5_best_57 : decode cX5_best 57 = .ok (.iload_n 3, 1) := by decide +kernel
theorem dX5_best_58 : decode cX5_best 58 = .ok (.if_icmp .le 8, 3) := by decide +kernel
theorem dX5_best_61 : decode cX5_best 61 = .ok (.iload 4, 2) := by decide +kernel
theorem dX5_best_63 : decode cX5_best 63 = .ok (.goto 4, 3) := by decide +kernel
theorem dX5_best_66 : decode cX5_best 66 = .ok (.iload_n 2, 1) := by decide +kernel
theorem dX5_best_67 : decode cX5_best 67 = .ok (.istore_n 2, 1) := by decide +kernel
theorem dX5_best_68 : decode cX5_best 68 = .ok (.iload 6, 2) := by decide +kernel
theorem dX5_best_70 : decode cX5_best 70 = .ok (.iload_n 3, 1) := by decide +kernel
theorem dX5_best_71 : decode cX5_best 71 = .ok (.if_icmp .le 8, 3) := by decide +kernel
theorem dX5_best_74 : decode cX5_best 74 = .ok (.iload 6, 2) := by decide +kernel
theorem dX5_best_76 : decode cX5_best 76 = .ok (.goto 4, 3) := by decide +kernel
theorem dX5_best_79 : decode cX5_best 79 = .ok (.iload_n 3, 1) := by decide +kernel
theorem dX5_best_80 : decode cX5_best 80 = .ok (.istore_n 3, 1) := by decide +kernel
theorem dX5_best_81 : decode cX5_best 81 = .ok (.iinc 4 1, 3) := by decide +kernel
theorem dX5_best_84 : decode cX5_best 84 = .ok (.goto (-59), 3) := by decide +kernel
theorem dX5_best_87 : decode cX5_best 87 = .ok (.iload_n 2, 1) := by decide +kernel
theorem dX5_best_88 : decode cX5_best 88 = .ok (.ireturn, 1) := by decide +kernel
theorem dX5_lean_0 : decode cX5_lean 0 = .ok (.iload_n 1, 1) := by decide +kernel
theorem dX5_lean_1 : decode cX5_lean 1 = .ok (.invokestatic 67, 3) := by decide +kernel
theorem dX5_lean_4 : decode cX5_lean 4 = .ok (.ifCond .eq 11, 3) := by decide +kernel
theorem dX5_lean_7 : decode cX5_lean 7 = .ok (.aload_n 0, 1) := by decide +kernel
theorem dX5_lean_8 : decode cX5_lean 8 = .ok (.iload_n 2, 1) := by decide +kernel
theorem dX5_lean_9 : decode cX5_lean 9 = .ok (.invokevirtual 106, 3) := by decide +kernel
theorem dX5_lean_12 : decode cX5_lean 12 = .ok (.ifCond .ne 10, 3) := by decide +kernel
theorem dX5_lean_15 : decode cX5_lean 15 = .ok (.aload_n 0, 1) := by decide +kernel
theorem dX5_lean_16 : decode cX5_lean 16 = .ok (.ldc 45, 2) := by decide +kernel
theorem dX5_lean_18 : decode cX5_lean 18 = .ok (.invokevirtual 74, 3) := by decide +kernel
theorem dX5_lean_21 : decode cX5_lean 21 = .ok (.ireturn, 1) := by decide +kernel
theorem dX5_lean_22 : decode cX5_lean 22 = .ok (.aload_n 0, 1) := by decide +kernel
theorem dX5_lean_23 : decode cX5_lean 23 = .ok (.iload_n 1, 1) := by decide +kernel
theorem dX5_lean_24 : decode cX5_lean 24 = .ok (.invokevirtual 125, 3) := by decide +kernel
theorem dX5_lean_27 : decode cX5_lean 27 = .ok (.ifCond .eq 11, 3) := by decide +kernel
theorem dX5_lean_30 : decode cX5_lean 30 = .ok (.aload_n 0, 1) := by decide +kernel
theorem dX5_lean_31 : decode cX5_lean 31 = .ok (.iload_n 2, 1) := by decide +kernel
theorem dX5_lean_32 : decode cX5_lean 32 = .ok (.invokevirtual 109, 3) := by decide +kernel
theorem dX5_lean_35 : decode cX5_lean 35 = .ok (.goto 9, 3) := by decide +kernel
theorem dX5_lean_38 : decode cX5_lean 38 = .ok (.aload_n 0, 1) := by decide +kernel
theorem dX5_lean_39 : decode cX5_lean 39 = .ok (.ldc 196, 2) := by decide +kernel
theorem dX5_lean_41 : decode cX5_lean 41 = .ok (.invokevirtual 74, 3) := by decide +kernel
theorem dX5_lean_44 : decode cX5_lean 44 = .ok (.ireturn, 1) := by decide +kernel
theorem dX5_leanFor_0 : decode cX5_leanFor 0 = .ok (.iload_n 1, 1) := by decide +kernel
theorem dX5_leanFor_1 : decode cX5_leanFor 1 = .ok (.invokestatic 67, 3) := by decide +kernel
theorem dX5_leanFor_4 : decode cX5_leanFor 4 = .ok (.ifCond .eq 10, 3) := by decide +kernel
theorem dX5_leanFor_7 : decode cX5_leanFor 7 = .ok (.iload_n 2, 1) := by decide +kernel
theorem dX5_leanFor_8 : decode cX5_leanFor 8 = .ok (.invokestatic 203, 3) := by decide +kernel
theorem dX5_leanFor_11 : decode cX5_leanFor 11 = .ok (.ifCond .ne 10, 3) := by decide +kernel
theorem dX5_leanFor_14 : decode cX5_leanFor 14 = .ok (.aload_n 0, 1) := by decide +kernel
theorem dX5_leanFor_15 : decode cX5_leanFor 15 = .ok (.ldc 45, 2) := by decide +kernel
theorem dX5_leanFor_17 : decode cX5_leanFor 17 = .ok (.invokevirtual 74, 3) := by decide +kernel
theorem dX5_leanFor_20 : decode cX5_leanFor 20 = .ok (.ireturn, 1) := by decide +kernel
theorem dX5_leanFor_21 : decode cX5_leanFor 21 = .ok (.aload_n 0, 1) := by decide +kernel
theorem dX5_leanFor_22 : decode cX5_leanFor 22 = .ok (.iload_n 1, 1) := by decide +kernel
theorem dX5_leanFor_23 : decode cX5_leanFor 23 = .ok (.iconst 2, 1) := by decide +kernel
theorem dX5_leanFor_24 : decode cX5_leanFor 24 = .ok (.invokevirtual 84, 3) := by decide +kernel
theorem dX5_leanFor_27 : decode cX5_leanFor 27 = .ok (.istore_n 3, 1) := by decide +kernel
theorem dX5_leanFor_28 : decode cX5_leanFor 28 = .ok (.iconst 0, 1) := by decide +kernel
theorem dX5_leanFor_29 : decode cX5_leanFor 29 = .ok (.istore 4, 2) := by decide +kernel
theorem dX5_leanFor_31 : decode cX5_leanFor 31 = .ok (.iconst (-1), 1) := by decide +kernel
theorem dX5_leanFor_32 : decode cX5_leanFor 32 = .ok (.istore 5, 2) := by decide +kernel
theorem dX5_leanFor_34 : decode cX5_leanFor 34 = .ok (.iconst 0, 1) := by decide +kernel
theorem dX5_leanFor_35 : decode cX5_leanFor 35 = .ok (.istore 6, 2) := by decide +kernel
theorem dX5_leanFor_37 : decode cX5_leanFor 37 = .ok (.iload 6, 2) := by decide +kernel
theorem dX5_leanFor_39 : decode cX5_leanFor 39 = .ok (.bipush 9, 2) := by decide +kernel
theorem dX5_leanFor_41 : decode cX5_leanFor 41 = .ok (.if_icmp .gt 65, 3) := by decide +kernel
theorem dX5_leanFor_44 : decode cX5_leanFor 44 = .ok (.aload_n 0, 1) := by decide +kernel
theorem dX5_leanFor_45 : decode cX5_leanFor 45 = .ok (.getfield 7, 3) := by decide +kernel
theorem dX5_leanFor_48 : decode cX5_leanFor 48 = .ok (.iload_n 1, 1) := by decide +kernel
theorem dX5_leanFor_49 : decode cX5_leanFor 49 = .ok (.iconst 2, 1) := by decide +kernel
theorem dX5_leanFor_50 : decode cX5_leanFor 50 = .ok (.invokestatic 41, 3) := by decide +kernel
theorem dX5_leanFor_53 : decode cX5_leanFor 53 = .ok (.iload 6, 2) := by decide +kernel
theorem dX5_leanFor_55 : decode cX5_leanFor 55 = .ok (.iastore, 1) := by decide +kernel
theorem dX5_leanFor_56 : decode cX5_leanFor 56 = .ok (.aload_n 0, 1) := by decide +kernel
theorem dX5_leanFor_57 : decode cX5_leanFor 57 = .ok (.iload_n 1, 1) := by decide +kernel
theorem dX5_leanFor_58 : decode cX5_leanFor 58 = .ok (.iconst 1, 1) := by decide +kernel
theorem dX5_leanFor_59 : decode cX5_leanFor 59 = .ok (.invokestatic 41, 3) := by decide +kernel
theorem dX5_leanFor_62 : decode cX5_leanFor 62 = .ok (.iload_n 2, 1) := by decide +kernel
theorem dX5_leanFor_63 : decode cX5_leanFor 63 = .ok (.invokevirtual 193, 3) := by decide +kernel
theorem dX5_leanFor_66 : decode cX5_leanFor 66 = .ok (.istore 7, 2) := by decide +kernel
theorem dX5_leanFor_68 : decode cX5_leanFor 68 = .ok (.iload 7, 2) := by decide +kernel
theorem dX5_leanFor_70 : decode cX5_leanFor 70 = .ok (.iload 5, 2) := by decide +kernel
theorem dX5_leanFor_72 : decode cX5_leanFor 72 = .ok (.if_icmp .le 8, 3) := by decide +kernel
theorem dX5_leanFor_75 : decode cX5_leanFor 75 = .ok (.iload 6, 2) := by decide +kernel
theorem dX5_leanFor_77 : decode cX5_leanFor 77 = .ok (.goto 5, 3) := by decide +kernel
theorem dX5_leanFor_80 : decode cX5_leanFor 80 = .ok (.iload 4, 2) := by decide +kernel
theorem dX5_leanFor_82 : decode cX5_leanFor 82 = .ok (.istore 4, 2) := by decide +kernel
theorem dX5_leanFor_84 : decode cX5_leanFor 84 = .ok (.iload 7, 2) := by decide +kernel
theorem dX5_leanFor_86 : decode cX5_leanFor 86 = .ok (.iload 5, 2) := by decide +kernel
theorem dX5_leanFor_88 : decode cX5_leanFor 88 = .ok (.if_icmp .le 8, 3) := by decide +kernel
theorem dX5_leanFor_91 : decode cX5_leanFor 91 = .ok (.iload 7, 2) := by decide +kernel
theorem dX5_leanFor_93 : decode cX5_leanFor 93 = .ok (.goto 5, 3) := by decide +kernel
theorem dX5_leanFor_96 : decode cX5_leanFor 96 = .ok (.iload 5, 2) := by decide +kernel
theorem dX5_leanFor_98 : decode cX5_leanFor 98 = .ok (.istore 5, 2) := by decide +kernel
theorem dX5_leanFor_100 : decode cX5_leanFor 100 = .ok (.iinc 6 1, 3) := by decide +kernel
theorem dX5_leanFor_103 : decode cX5_leanFor 103 = .ok (.goto (-66), 3) := by decide +kernel
theorem dX5_leanFor_106 : decode cX5_leanFor 106 = .ok (.aload_n 0, 1) := by decide +kernel
theorem dX5_leanFor_107 : decode cX5_leanFor 107 = .ok (.getfield 7, 3) := by decide +kernel
theorem dX5_leanFor_110 : decode cX5_leanFor 110 = .ok (.iload_n 1, 1) := by decide +kernel
theorem dX5_leanFor_111 : decode cX5_leanFor 111 = .ok (.iconst 2, 1) := by decide +kernel
theorem dX5_leanFor_112 : decode cX5_leanFor 112 = .ok (.invokestatic 41, 3) := by decide +kernel
theorem dX5_leanFor_115 : decode cX5_leanFor 115 = .ok (.iload_n 3, 1) := by decide +kernel
theorem dX5_leanFor_116 : decode cX5_leanFor 116 = .ok (.iastore, 1) := by decide +kernel
theorem dX5_leanFor_117 : decode cX5_leanFor 117 = .ok (.iload 4, 2) := by decide +kernel
theorem dX5_leanFor_119 : decode cX5_leanFor 119 = .ok (.ireturn, 1) := by decide +kernel
theorem dX5_kind_0 : decode cX5_kind 0 = .ok (.aload_n 0, 1) := by decide +kernel
theorem dX5_kind_1 : decode cX5_kind 1 = .ok (.iload_n 1, 1) := by decide +kernel
theorem dX5_kind_2 : decode cX5_kind 2 = .ok (.invokevirtual 106, 3) := by decide +kernel
theorem dX5_kind_5 : decode cX5_kind 5 = .ok (.ifCond .ne 10, 3) := by decide +kernel
theorem dX5_kind_8 : decode cX5_kind 8 = .ok (.aload_n 0, 1) := by decide +kernel
theorem dX5_kind_9 : decode cX5_kind 9 = .ok (.ldc 45, 2) := by decide +kernel
theorem dX5_kind_11 : decode cX5_kind 11 = .ok (.invokevirtual 74, 3) := by decide +kernel
theorem dX5_kind_14 : decode cX5_kind 14 = .ok (.ireturn, 1) := by decide +kernel
theorem dX5_kind_15 : decode cX5_kind 15 = .ok (.aload_n 0, 1) := by decide +kernel
theorem dX5_kind_16 : decode cX5_kind 16 = .ok (.iload_n 1, 1) := by decide +kernel
theorem dX5_kind_17 : decode cX5_kind 17 = .ok (.iconst 0, 1) := by decide +kernel
theorem dX5_kind_18 : decode cX5_kind 18 = .ok (.invokevirtual 78, 3) := by decide +kernel
theorem dX5_kind_21 : decode cX5_kind 21 = .ok (.istore_n 2, 1) := by decide +kernel
theorem dX5_kind_22 : decode cX5_kind 22 = .ok (.iconst 0, 1) := by decide +kernel
theorem dX5_kind_23 : decode cX5_kind 23 = .ok (.istore_n 3, 1) := by decide +kernel
theorem dX5_kind_24 : decode cX5_kind 24 = .ok (.sipush 999, 3) := by decide +kernel
theorem dX5_kind_27 : decode cX5_kind 27 = .ok (.istore 4, 2) := by decide +kernel
theorem dX5_kind_29 : decode cX5_kind 29 = .ok (.iconst 0, 1) := by decide +kernel
theorem dX5_kind_30 : decode cX5_kind 30 = .ok (.istore 5, 2) := by decide +kernel
theorem dX5_kind_32 : decode cX5_kind 32 = .ok (.iload 5, 2) := by decide +kernel
theorem dX5_kind_34 : decode cX5_kind 34 = .ok (.iconst 5, 1) := by decide +kernel
theorem dX5_kind_35 : decode cX5_kind 35 = .ok (.if_icmp .gt 58, 3) := by decide +kernel
theorem dX5_kind_38 : decode cX5_kind 38 = .ok (.aload_n 0, 1) := by decide +kernel
theorem dX5_kind_39 : decode cX5_kind 39 = .ok (.getfield 7, 3) := by decide +kernel
theorem dX5_kind_42 : decode cX5_kind 42 = .ok (.iload_n 1, 1) := by decide +kernel
theorem dX5_kind_43 : decode cX5_kind 43 = .ok (.iconst 0, 1) := by decide +kernel
theorem dX5_kind_44 : decode cX5_kind 44 = .ok (.invokestatic 56, 3) := by decide +kernel
theorem dX5_kind_47 : decode cX5_kind 47 = .ok (.iload 5, 2) := by decide +kernel
theorem dX5_kind_49 : decode cX5_kind 49 = .ok (.iastore, 1) := by decide +kernel
theorem dX5_kind_50 : decode cX5_kind 50 = .ok (.aload_n 0, 1) := by decide +kernel
theorem dX5_kind_51 : decode cX5_kind 51 = .ok (.iload_n 1, 1) := by decide +kernel
theorem dX5_kind_52 : decode cX5_kind 52 = .ok (.invokevirtual 81, 3) := by decide +kernel
theorem dX5_kind_55 : decode cX5_kind 55 = .ok (.istore 6, 2) := by decide +kernel
theorem dX5_kind_57 : decode cX5_kind 57 = .ok (.iload 6, 2) := by decide +kernel
theorem dX5_kind_59 : decode cX5_kind 59 = .ok (.iload 4, 2) := by decide +kernel
theorem dX5_kind_61 : decode cX5_kind 61 = .ok (.if_icmp .ge 8, 3) := by decide +kernel
theorem dX5_kind_64 : decode cX5_kind 64 = .ok (.iload 5, 2) := by decide +kernel
theorem dX5_kind_66 : decode cX5_kind 66 = .ok (.goto 4, 3) := by decide +kernel
theorem dX5_kind_69 : decode cX5_kind 69 = .ok (.iload_n 3, 1) := by decide +kernel
theorem dX5_kind_70 : decode cX5_kind 70 = .ok (.istore_n 3, 1) := by decide +kernel
theorem dX5_kind_71 : decode cX5_kind 71 = .ok (.iload 6, 2) := by decide +kernel
theorem dX5_kind_73 : decode cX5_kind 73 = .ok (.iload 4, 2) := by decide +kernel
theorem dX5_kind_75 : decode cX5_kind 75 = .ok (.if_icmp .ge 8, 3) := by decide +kernel
theorem dX5_kind_78 : decode cX5_kind 78 = .ok (.iload 6, 2) := by decide +kernel
theorem dX5_kind_80 : decode cX5_kind 80 = .ok (.goto 5, 3) := by decide +kernel
theorem dX5_kind_83 : decode cX5_kind 83 = .ok (.iload 4, 2) := by decide +kernel
theorem dX5_kind_85 : decode cX5_kind 85 = .ok (.istore 4, 2) := by decide +kernel
theorem dX5_kind_87 : decode cX5_kind 87 = .ok (.iinc 5 1, 3) := by decide +kernel
theorem dX5_kind_90 : decode cX5_kind 90 = .ok (.goto (-58), 3) := by decide +kernel
theorem dX5_kind_93 : decode cX5_kind 93 = .ok (.aload_n 0, 1) := by decide +kernel
theorem dX5_kind_94 : decode cX5_kind 94 = .ok (.getfield 7, 3) := by decide +kernel
theorem dX5_kind_97 : decode cX5_kind 97 = .ok (.iload_n 1, 1) := by decide +kernel
theorem dX5_kind_98 : decode cX5_kind 98 = .ok (.iconst 0, 1) := by decide +kernel
theorem dX5_kind_99 : decode cX5_kind 99 = .ok (.invokestatic 56, 3) := by decide +kernel
theorem dX5_kind_102 : decode cX5_kind 102 = .ok (.iload_n 2, 1) := by decide +kernel
theorem dX5_kind_103 : decode cX5_kind 103 = .ok (.iastore, 1) := by decide +kernel
theorem dX5_kind_104 : decode cX5_kind 104 = .ok (.iload_n 3, 1) := by decide +kernel
theorem dX5_kind_105 : decode cX5_kind 105 = .ok (.ireturn, 1) := by decide +kernel
theorem dX5_host_0 : decode cX5_host 0 = .ok (.aload_n 0, 1) := by decide +kernel
theorem dX5_host_1 : decode cX5_host 1 = .ok (.iload_n 1, 1) := by decide +kernel
theorem dX5_host_2 : decode cX5_host 2 = .ok (.invokevirtual 106, 3) := by decide +kernel
theorem dX5_host_5 : decode cX5_host 5 = .ok (.ifCond .ne 10, 3) := by decide +kernel
theorem dX5_host_8 : decode cX5_host 8 = .ok (.aload_n 0, 1) := by decide +kernel
theorem dX5_host_9 : decode cX5_host 9 = .ok (.ldc 45, 2) := by decide +kernel
theorem dX5_host_11 : decode cX5_host 11 = .ok (.invokevirtual 74, 3) := by decide +kernel
theorem dX5_host_14 : decode cX5_host 14 = .ok (.ireturn, 1) := by decide +kernel
theorem dX5_host_15 : decode cX5_host 15 = .ok (.aload_n 0, 1) := by decide +kernel
theorem dX5_host_16 : decode cX5_host 16 = .ok (.aload_n 0, 1) := by decide +kernel
theorem dX5_host_17 : decode cX5_host 17 = .ok (.iload_n 1, 1) := by decide +kernel
theorem dX5_host_18 : decode cX5_host 18 = .ok (.iconst 1, 1) := by decide +kernel
theorem dX5_host_19 : decode cX5_host 19 = .ok (.invokevirtual 78, 3) := by decide +kernel
theorem dX5_host_22 : decode cX5_host 22 = .ok (.invokevirtual 131, 3) := by decide +kernel
theorem dX5_host_25 : decode cX5_host 25 = .ok (.ifCond .eq 7, 3) := by decide +kernel
theorem dX5_host_28 : decode cX5_host 28 = .ok (.iconst (-1), 1) := by decide +kernel
theorem dX5_host_29 : decode cX5_host 29 = .ok (.goto 8, 3) := by decide +kernel
theorem dX5_host_32 : decode cX5_host 32 = .ok (.aload_n 0, 1) := by decide +kernel
theorem dX5_host_33 : decode cX5_host 33 = .ok (.iload_n 1, 1) := by decide +kernel
theorem dX5_host_34 : decode cX5_host 34 = .ok (.invokevirtual 135, 3) := by decide +kernel
theorem dX5_host_37 : decode cX5_host 37 = .ok (.istore_n 2, 1) := by decide +kernel
theorem dX5_host_38 : decode cX5_host 38 = .ok (.iload_n 2, 1) := by decide +kernel
theorem dX5_host_39 : decode cX5_host 39 = .ok (.iconst (-1), 1) := by decide +kernel
theorem dX5_host_40 : decode cX5_host 40 = .ok (.if_icmp .ne 12, 3) := by decide +kernel
theorem dX5_host_43 : decode cX5_host 43 = .ok (.aload_n 0, 1) := by decide +kernel
theorem dX5_host_44 : decode cX5_host 44 = .ok (.ldc 196, 2) := by decide +kernel
theorem dX5_host_46 : decode cX5_host 46 = .ok (.invokevirtual 74, 3) := by decide +kernel
theorem dX5_host_49 : decode cX5_host 49 = .ok (.goto 4, 3) := by decide +kernel
theorem dX5_host_52 : decode cX5_host 52 = .ok (.iload_n 2, 1) := by decide +kernel
theorem dX5_host_53 : decode cX5_host 53 = .ok (.ireturn, 1) := by decide +kernel
theorem dX5_beds_0 : decode cX5_beds 0 = .ok (.iload_n 1, 1) := by decide +kernel
theorem dX5_beds_1 : decode cX5_beds 1 = .ok (.invokestatic 67, 3) := by decide +kernel
theorem dX5_beds_4 : decode cX5_beds 4 = .ok (.ifCond .eq 10, 3) := by decide +kernel
theorem dX5_beds_7 : decode cX5_beds 7 = .ok (.iload_n 2, 1) := by decide +kernel
theorem dX5_beds_8 : decode cX5_beds 8 = .ok (.invokestatic 203, 3) := by decide +kernel
theorem dX5_beds_11 : decode cX5_beds 11 = .ok (.ifCond .ne 10, 3) := by decide +kernel
theorem dX5_beds_14 : decode cX5_beds 14 = .ok (.aload_n 0, 1) := by decide +kernel
theorem dX5_beds_15 : decode cX5_beds 15 = .ok (.ldc 45, 2) := by decide +kernel
theorem dX5_beds_17 : decode cX5_beds 17 = .ok (.invokevirtual 74, 3) := by decide +kernel
theorem dX5_beds_20 : decode cX5_beds 20 = .ok (.ireturn, 1) := by decide +kernel
theorem dX5_beds_21 : decode cX5_beds 21 = .ok (.aload_n 0, 1) := by decide +kernel
theorem dX5_beds_22 : decode cX5_beds 22 = .ok (.iload_n 1, 1) := by decide +kernel
theorem dX5_beds_23 : decode cX5_beds 23 = .ok (.iconst 0, 1) := by decide +kernel
theorem dX5_beds_24 : decode cX5_beds 24 = .ok (.invokevirtual 84, 3) := by decide +kernel
theorem dX5_beds_27 : decode cX5_beds 27 = .ok (.istore_n 3, 1) := by decide +kernel
theorem dX5_beds_28 : decode cX5_beds 28 = .ok (.iconst (-1), 1) := by decide +kernel
theorem dX5_beds_29 : decode cX5_beds 29 = .ok (.istore 4, 2) := by decide +kernel
theorem dX5_beds_31 : decode cX5_beds 31 = .ok (.iconst 0, 1) := by decide +kernel
theorem dX5_beds_32 : decode cX5_beds 32 = .ok (.istore 5, 2) := by decide +kernel
theorem dX5_beds_34 : decode cX5_beds 34 = .ok (.iload 5, 2) := by decide +kernel
theorem dX5_beds_36 : decode cX5_beds 36 = .ok (.iconst 3, 1) := by decide +kernel
theorem dX5_beds_37 : decode cX5_beds 37 = .ok (.if_icmp .gt 55, 3) := by decide +kernel
theorem dX5_beds_40 : decode cX5_beds 40 = .ok (.iload 4, 2) := by decide +kernel
theorem dX5_beds_42 : decode cX5_beds 42 = .ok (.ifCond .ge 50, 3) := by decide +kernel
theorem dX5_beds_45 : decode cX5_beds 45 = .ok (.aload_n 0, 1) := by decide +kernel
theorem dX5_beds_46 : decode cX5_beds 46 = .ok (.getfield 7, 3) := by decide +kernel
theorem dX5_beds_49 : decode cX5_beds 49 = .ok (.iload_n 1, 1) := by decide +kernel
theorem dX5_beds_50 : decode cX5_beds 50 = .ok (.iconst 0, 1) := by decide +kernel
theorem dX5_beds_51 : decode cX5_beds 51 = .ok (.invokestatic 41, 3) := by decide +kernel
theorem dX5_beds_54 : decode cX5_beds 54 = .ok (.iload 5, 2) := by decide +kernel
theorem dX5_beds_56 : decode cX5_beds 56 = .ok (.iastore, 1) := by decide +kernel
theorem dX5_beds_57 : decode cX5_beds 57 = .ok (.aload_n 0, 1) := by decide +kernel
theorem dX5_beds_58 : decode cX5_beds 58 = .ok (.invokevirtual 184, 3) := by decide +kernel
theorem dX5_beds_61 : decode cX5_beds 61 = .ok (.aload_n 0, 1) := by decide +kernel
theorem dX5_beds_62 : decode cX5_beds 62 = .ok (.iload_n 2, 1) := by decide +kernel
theorem dX5_beds_63 : decode cX5_beds 63 = .ok (.invokevirtual 168, 3) := by decide +kernel
theorem dX5_beds_66 : decode cX5_beds 66 = .ok (.aload_n 0, 1) := by decide +kernel
theorem dX5_beds_67 : decode cX5_beds 67 = .ok (.aload_n 0, 1) := by decide +kernel
theorem dX5_beds_68 : decode cX5_beds 68 = .ok (.iconst (-1), 1) := by decide +kernel
theorem dX5_beds_69 : decode cX5_beds 69 = .ok (.invokevirtual 87, 3) := by decide +kernel
theorem dX5_beds_72 : decode cX5_beds 72 = .ok (.ifCond .ne 8, 3) := by decide +kernel
theorem dX5_beds_75 : decode cX5_beds 75 = .ok (.iload 5, 2) := by decide +kernel
theorem dX5_beds_77 : decode cX5_beds 77 = .ok (.goto 4, 3) := by decide +kernel
theorem dX5_beds_80 : decode cX5_beds 80 = .ok (.iconst (-1), 1) := by decide +kernel
theorem dX5_beds_81 : decode cX5_beds 81 = .ok (.invokevirtual 187, 3) := by decide +kernel
theorem dX5_beds_84 : decode cX5_beds 84 = .ok (.istore 4, 2) := by decide +kernel
theorem dX5_beds_86 : decode cX5_beds 86 = .ok (.iinc 5 1, 3) := by decide +kernel
theorem dX5_beds_89 : decode cX5_beds 89 = .ok (.goto (-55), 3) := by decide +kernel
theorem dX5_beds_92 : decode cX5_beds 92 = .ok (.aload_n 0, 1) := by decide +kernel
theorem dX5_beds_93 : decode cX5_beds 93 = .ok (.getfield 7, 3) := by decide +kernel
theorem dX5_beds_96 : decode cX5_beds 96 = .ok (.iload_n 1, 1) := by decide +kernel
theorem dX5_beds_97 : decode cX5_beds 97 = .ok (.iconst 0, 1) := by decide +kernel
theorem dX5_beds_98 : decode cX5_beds 98 = .ok (.invokestatic 41, 3) := by decide +kernel
theorem dX5_beds_101 : decode cX5_beds 101 = .ok (.iload_n 3, 1) := by decide +kernel
theorem dX5_beds_102 : decode cX5_beds 102 = .ok (.iastore, 1) := by decide +kernel
theorem dX5_beds_103 : decode cX5_beds 103 = .ok (.iload 4, 2) := by decide +kernel
theorem dX5_beds_105 : decode cX5_beds 105 = .ok (.ifCond .ge 12, 3) := by decide +kernel
theorem dX5_beds_108 : decode cX5_beds 108 = .ok (.aload_n 0, 1) := by decide +kernel
theorem dX5_beds_109 : decode cX5_beds 109 = .ok (.ldc 196, 2) := by decide +kernel
theorem dX5_beds_111 : decode cX5_beds 111 = .ok (.invokevirtual 74, 3) := by decide +kernel
theorem dX5_beds_114 : decode cX5_beds 114 = .ok (.goto 5, 3) := by decide +kernel
theorem dX5_beds_117 : decode cX5_beds 117 = .ok (.iload 4, 2) := by decide +kernel
theorem dX5_beds_119 : decode cX5_beds 119 = .ok (.ireturn, 1) := by decide +kernel
theorem dX5_feed_0 : decode cX5_feed 0 = .ok (.iload_n 2, 1) := by decide +kernel
theorem dX5_feed_1 : decode cX5_feed 1 = .ok (.i2l, 1) := by decide +kernel
theorem dX5_feed_2 : decode cX5_feed 2 = .ok (.lconst 1, 1) := by decide +kernel
theorem dX5_feed_3 : decode cX5_feed 3 = .ok (.ldc2_w 206, 3) := by decide +kernel
theorem dX5_feed_6 : decode cX5_feed 6 = .ok (.invokestatic 48, 3) := by decide +kernel
theorem dX5_feed_9 : decode cX5_feed 9 = .ok (.ifCond .ne 10, 3) := by decide +kernel
theorem dX5_feed_12 : decode cX5_feed 12 = .ok (.aload_n 0, 1) := by decide +kernel
theorem dX5_feed_13 : decode cX5_feed 13 = .ok (.ldc 45, 2) := by decide +kernel
theorem dX5_feed_15 : decode cX5_feed 15 = .ok (.invokevirtual 74, 3) := by decide +kernel
theorem dX5_feed_18 : decode cX5_feed 18 = .ok (.ireturn, 1) := by decide +kernel
theorem dX5_feed_19 : decode cX5_feed 19 = .ok (.aload_n 0, 1) := by decide +kernel
theorem dX5_feed_20 : decode cX5_feed 20 = .ok (.getfield 208, 3) := by decide +kernel
theorem dX5_feed_23 : decode cX5_feed 23 = .ok (.iload_n 2, 1) := by decide +kernel
theorem dX5_feed_24 : decode cX5_feed 24 = .ok (.iadd, 1) := by decide +kernel
theorem dX5_feed_25 : decode cX5_feed 25 = .ok (.bipush 120, 2) := by decide +kernel
theorem dX5_feed_27 : decode cX5_feed 27 = .ok (.if_icmp .le 10, 3) := by decide +kernel
theorem dX5_feed_30 : decode cX5_feed 30 = .ok (.aload_n 0, 1) := by decide +kernel
theorem dX5_feed_31 : decode cX5_feed 31 = .ok (.ldc 102, 2) := by decide +kernel
theorem dX5_feed_33 : decode cX5_feed 33 = .ok (.invokevirtual 74, 3) := by decide +kernel
theorem dX5_feed_36 : decode cX5_feed 36 = .ok (.ireturn, 1) := by decide +kernel
theorem dX5_feed_37 : decode cX5_feed 37 = .ok (.iload_n 2, 1) := by decide +kernel
theorem dX5_feed_38 : decode cX5_feed 38 = .ok (.iconst 1, 1) := by decide +kernel
theorem dX5_feed_39 : decode cX5_feed 39 = .ok (.isub, 1) := by decide +kernel
theorem dX5_feed_40 : decode cX5_feed 40 = .ok (.istore_n 3, 1) := by decide +kernel
theorem dX5_feed_41 : decode cX5_feed 41 = .ok (.iload_n 3, 1) := by decide +kernel
theorem dX5_feed_42 : decode cX5_feed 42 = .ok (.ifCond .lt 38, 3) := by decide +kernel
theorem dX5_feed_45 : decode cX5_feed 45 = .ok (.aload_n 0, 1) := by decide +kernel
theorem dX5_feed_46 : decode cX5_feed 46 = .ok (.getfield 25, 3) := by decide +kernel
theorem dX5_feed_49 : decode cX5_feed 49 = .ok (.aload_n 0, 1) := by decide +kernel
theorem dX5_feed_50 : decode cX5_feed 50 = .ok (.getfield 208, 3) := by decide +kernel
theorem dX5_feed_53 : decode cX5_feed 53 = .ok (.iload_n 1, 1) := by decide +kernel
theorem dX5_feed_54 : decode cX5_feed 54 = .ok (.bipush 8, 2) := by decide +kernel
theorem dX5_feed_56 : decode cX5_feed 56 = .ok (.iload_n 3, 1) := by decide +kernel
theorem dX5_feed_57 : decode cX5_feed 57 = .ok (.imul, 1) := by decide +kernel
theorem dX5_feed_58 : decode cX5_feed 58 = .ok (.ishr, 1) := by decide +kernel
theorem dX5_feed_59 : decode cX5_feed 59 = .ok (.sipush 255, 3) := by decide +kernel
theorem dX5_feed_62 : decode cX5_feed 62 = .ok (.iand, 1) := by decide +kernel
theorem dX5_feed_63 : decode cX5_feed 63 = .ok (.iastore, 1) := by decide +kernel
theorem dX5_feed_64 : decode cX5_feed 64 = .ok (.aload_n 0, 1) := by decide +kernel
theorem dX5_feed_65 : decode cX5_feed 65 = .ok (.dup, 1) := by decide +kernel
theorem dX5_feed_66 : decode cX5_feed 66 = .ok (.getfield 208, 3) := by decide +kernel
theorem dX5_feed_69 : decode cX5_feed 69 = .ok (.iconst 1, 1) := by decide +kernel
theorem dX5_feed_70 : decode cX5_feed 70 = .ok (.iadd, 1) := by decide +kernel
theorem dX5_feed_71 : decode cX5_feed 71 = .ok (.putfield 208, 3) := by decide +kernel
theorem dX5_feed_74 : decode cX5_feed 74 = .ok (.iinc 3 (-1), 3) := by decide +kernel
theorem dX5_feed_77 : decode cX5_feed 77 = .ok (.goto (-36), 3) := by decide +kernel
theorem dX5_feed_80 : decode cX5_feed 80 = .ok (.aload_n 0, 1) := by decide +kernel
theorem dX5_feed_81 : decode cX5_feed 81 = .ok (.getfield 208, 3) := by decide +kernel
theorem dX5_feed_84 : decode cX5_feed 84 = .ok (.ireturn, 1) := by decide +kernel
theorem dX5_wipe_0 : decode cX5_wipe 0 = .ok (.aload_n 0, 1) := by decide +kernel
theorem dX5_wipe_1 : decode cX5_wipe 1 = .ok (.getfield 208, 3) := by decide +kernel
theorem dX5_wipe_4 : decode cX5_wipe 4 = .ok (.istore_n 1, 1) := by decide +kernel
theorem dX5_wipe_5 : decode cX5_wipe 5 = .ok (.aload_n 0, 1) := by decide +kernel
theorem dX5_wipe_6 : decode cX5_wipe 6 = .ok (.iconst 0, 1) := by decide +kernel
theorem dX5_wipe_7 : decode cX5_wipe 7 = .ok (.putfield 208, 3) := by decide +kernel
theorem dX5_wipe_10 : decode cX5_wipe 10 = .ok (.iload_n 1, 1) := by decide +kernel
theorem dX5_wipe_11 : decode cX5_wipe 11 = .ok (.ireturn, 1) := by decide +kernel
theorem dX5_byteAt_0 : decode cX5_byteAt 0 = .ok (.iload_n 1, 1) := by decide +kernel
theorem dX5_byteAt_1 : decode cX5_byteAt 1 = .ok (.aload_n 0, 1) := by decide +kernel
theorem dX5_byteAt_2 : decode cX5_byteAt 2 = .ok (.getfield 208, 3) := by decide +kernel
theorem dX5_byteAt_5 : decode cX5_byteAt 5 = .ok (.if_icmp .ge 12, 3) := by decide +kernel
theorem dX5_byteAt_8 : decode cX5_byteAt 8 = .ok (.aload_n 0, 1) := by decide +kernel
theorem dX5_byteAt_9 : decode cX5_byteAt 9 = .ok (.getfield 25, 3) := by decide +kernel
theorem dX5_byteAt_12 : decode cX5_byteAt 12 = .ok (.iload_n 1, 1) := by decide +kernel
theorem dX5_byteAt_13 : decode cX5_byteAt 13 = .ok (.iaload, 1) := by decide +kernel
theorem dX5_byteAt_14 : decode cX5_byteAt 14 = .ok (.goto 4, 3) := by decide +kernel
theorem dX5_byteAt_17 : decode cX5_byteAt 17 = .ok (.iconst (-1), 1) := by decide +kernel
theorem dX5_byteAt_18 : decode cX5_byteAt 18 = .ok (.ireturn, 1) := by decide +kernel
theorem dX5_isLetter_0 : decode cX5_isLetter 0 = .ok (.iload_n 0, 1) := by decide +kernel
theorem dX5_isLetter_1 : decode cX5_isLetter 1 = .ok (.i2l, 1) := by decide +kernel
theorem dX5_isLetter_2 : decode cX5_isLetter 2 = .ok (.ldc2_w 212, 3) := by decide +kernel
theorem dX5_isLetter_5 : decode cX5_isLetter 5 = .ok (.ldc2_w 214, 3) := by decide +kernel
theorem dX5_isLetter_8 : decode cX5_isLetter 8 = .ok (.invokestatic 48, 3) := by decide +kernel
theorem dX5_isLetter_11 : decode cX5_isLetter 11 = .ok (.ireturn, 1) := by decide +kernel
theorem dX5_isDigit_0 : decode cX5_isDigit 0 = .ok (.iload_n 0, 1) := by decide +kernel
theorem dX5_isDigit_1 : decode cX5_isDigit 1 = .ok (.i2l, 1) := by decide +kernel
theorem dX5_isDigit_2 : decode cX5_isDigit 2 = .ok (.ldc2_w 216, 3) := by decide +kernel
theorem dX5_isDigit_5 : decode cX5_isDigit 5 = .ok (.ldc2_w 218, 3) := by decide +kernel
theorem dX5_isDigit_8 : decode cX5_isDigit 8 = .ok (.invokestatic 48, 3) := by decide +kernel
theorem dX5_isDigit_11 : decode cX5_isDigit 11 = .ok (.ireturn, 1) := by decide +kernel
theorem dX5_token_0 : decode cX5_token 0 = .ok (.aload_n 0, 1) := by decide +kernel
theorem dX5_token_1 : decode cX5_token 1 = .ok (.aload_n 0, 1) := by decide +kernel
theorem dX5_token_2 : decode cX5_token 2 = .ok (.getfield 220, 3) := by decide +kernel
theorem dX5_token_5 : decode cX5_token 5 = .ok (.putfield 223, 3) := by decide +kernel
theorem dX5_token_8 : decode cX5_token 8 = .ok (.aload_n 0, 1) := by decide +kernel
theorem dX5_token_9 : decode cX5_token 9 = .ok (.aload_n 0, 1) := by decide +kernel
theorem dX5_token_10 : decode cX5_token 10 = .ok (.getfield 223, 3) := by decide +kernel
theorem dX5_token_13 : decode cX5_token 13 = .ok (.invokevirtual 226, 3) := by decide +kernel
theorem dX5_token_16 : decode cX5_token 16 = .ok (.bipush 32, 2) := by decide +kernel
theorem dX5_token_18 : decode cX5_token 18 = .ok (.if_icmp .ne 16, 3) := by decide +kernel
theorem dX5_token_21 : decode cX5_token 21 = .ok (.aload_n 0, 1) := by decide +kernel
theorem dX5_token_22 : decode cX5_token 22 = .ok (.dup, 1) := by decide +kernel
theorem dX5_token_23 : decode cX5_token 23 = .ok (.getfield 223, 3) := by decide +kernel
theorem dX5_token_26 : decode cX5_token 26 = .ok (.iconst 1, 1) := by decide +kernel
theorem dX5_token_27 : decode cX5_token 27 = .ok (.iadd, 1) := by decide +kernel
theorem dX5_token_28 : decode cX5_token 28 = .ok (.putfield 223, 3) := by decide +kernel
theorem dX5_token_31 : decode cX5_token 31 = .ok (.goto (-23), 3) := by decide +kernel
theorem dX5_token_34 : decode cX5_token 34 = .ok (.aload_n 0, 1) := by decide +kernel
theorem dX5_token_35 : decode cX5_token 35 = .ok (.aload_n 0, 1) := by decide +kernel
theorem dX5_token_36 : decode cX5_token 36 = .ok (.getfield 223, 3) := by decide +kernel
theorem dX5_token_39 : decode cX5_token 39 = .ok (.invokevirtual 226, 3) := by decide +kernel
theorem dX5_token_42 : decode cX5_token 42 = .ok (.invokestatic 229, 3) := by decide +kernel
theorem dX5_token_45 : decode cX5_token 45 = .ok (.istore_n 1, 1) := by decide +kernel
theorem dX5_token_46 : decode cX5_token 46 = .ok (.aload_n 0, 1) := by decide +kernel
theorem dX5_token_47 : decode cX5_token 47 = .ok (.aload_n 0, 1) := by decide +kernel
theorem dX5_token_48 : decode cX5_token 48 = .ok (.getfield 223, 3) := by decide +kernel
theorem dX5_token_51 : decode cX5_token 51 = .ok (.invokevirtual 226, 3) := by decide +kernel
theorem dX5_token_54 : decode cX5_token 54 = .ok (.invokestatic 232, 3) := by decide +kernel
theorem dX5_token_57 : decode cX5_token 57 = .ok (.istore_n 2, 1) := by decide +kernel
theorem dX5_token_58 : decode cX5_token 58 = .ok (.aload_n 0, 1) := by decide +kernel
theorem dX5_token_59 : decode cX5_token 59 = .ok (.aload_n 0, 1) := by decide +kernel
theorem dX5_token_60 : decode cX5_token 60 = .ok (.getfield 223, 3) := by decide +kernel
theorem dX5_token_63 : decode cX5_token 63 = .ok (.aload_n 0, 1) := by decide +kernel
theorem dX5_token_64 : decode cX5_token 64 = .ok (.getfield 208, 3) := by decide +kernel
theorem dX5_token_67 : decode cX5_token 67 = .ok (.if_icmp .ge 12, 3) := by decide +kernel
theorem dX5_token_70 : decode cX5_token 70 = .ok (.aload_n 0, 1) := by decide +kernel
theorem dX5_token_71 : decode cX5_token 71 = .ok (.getfield 223, 3) := by decide +kernel
theorem dX5_token_74 : decode cX5_token 74 = .ok (.iconst 1, 1) := by decide +kernel
theorem dX5_token_75 : decode cX5_token 75 = .ok (.iadd, 1) := by decide +kernel
theorem dX5_token_76 : decode cX5_token 76 = .ok (.goto 7, 3) := by decide +kernel
theorem dX5_token_79 : decode cX5_token 79 = .ok (.aload_n 0, 1) := by decide +kernel
theorem dX5_token_80 : decode cX5_token 80 = .ok (.getfield 223, 3) := by decide +kernel
theorem dX5_token_83 : decode cX5_token 83 = .ok (.putfield 220, 3) := by decide +kernel
theorem dX5_token_86 : decode cX5_token 86 = .ok (.iload_n 1, 1) := by decide +kernel
theorem dX5_token_87 : decode cX5_token 87 = .ok (.ifCond .eq 17, 3) := by decide +kernel
theorem dX5_token_90 : decode cX5_token 90 = .ok (.aload_n 0, 1) := by decide +kernel
theorem dX5_token_91 : decode cX5_token 91 = .ok (.aload_n 0, 1) := by decide +kernel
theorem dX5_token_92 : decode cX5_token 92 = .ok (.getfield 220, 3) := by decide +kernel
theorem dX5_token_95 : decode cX5_token 95 = .ok (.invokevirtual 226, 3) := by decide +kernel
theorem dX5_token_98 : decode cX5_token 98 = .ok (.invokestatic 229, 3) := by decide +kernel
theorem dX5_token_101 : decode cX5_token 101 = .ok (.ifCond .ne 21, 3) := by decide +kernel
theorem dX5_token_104 : decode cX5_token 104 = .ok (.iload_n 2, 1) := by decide +kernel
theorem dX5_token_105 : decode cX5_token 105 = .ok (.ifCond .eq 30, 3) := by decide +kernel
theorem dX5_token_108 : decode cX5_token 108 = .ok (.aload_n 0, 1) := by decide +kernel
theorem dX5_token_109 : decode cX5_token 109 = .ok (.aload_n 0, 1) := by decide +kernel
theorem dX5_token_110 : decode cX5_token 110 = .ok (.getfield 220, 3) := by decide +kernel
theorem dX5_token_113 : decode cX5_token 113 = .ok (.invokevirtual 226, 3) := by decide +kernel
theorem dX5_token_116 : decode cX5_token 116 = .ok (.invokestatic 232, 3) := by decide +kernel
theorem dX5_token_119 : decode cX5_token 119 = .ok (.ifCond .eq 16, 3) := by decide +kernel
theorem dX5_token_122 : decode cX5_token 122 = .ok (.aload_n 0, 1) := by decide +kernel
theorem dX5_token_123 : decode cX5_token 123 = .ok (.dup, 1) := by decide +kernel
theorem dX5_token_124 : decode cX5_token 124 = .ok (.getfield 220, 3) := by decide +kernel
theorem dX5_token_127 : decode cX5_token 127 = .ok (.iconst 1, 1) := by decide +kernel
theorem dX5_token_128 : decode cX5_token 128 = .ok (.iadd, 1) := by decide +kernel
theorem dX5_token_129 : decode cX5_token 129 = .ok (.putfield 220, 3) := by decide +kernel
theorem dX5_token_132 : decode cX5_token 132 = .ok (.goto (-46), 3) := by decide +kernel
theorem dX5_token_135 : decode cX5_token 135 = .ok (.return_, 1) := by decide +kernel
theorem dX5_must_0 : decode cX5_must 0 = .ok (.aload_n 0, 1) := by decide +kernel
theorem dX5_must_1 : decode cX5_must 1 = .ok (.aload_n 0, 1) := by decide +kernel
theorem dX5_must_2 : decode cX5_must 2 = .ok (.getfield 235, 3) := by decide +kernel
theorem dX5_must_5 : decode cX5_must 5 = .ok (.ifCond .ne 7, 3) := by decide +kernel
theorem dX5_must_8 : decode cX5_must 8 = .ok (.iload_n 1, 1) := by decide +kernel
theorem dX5_must_9 : decode cX5_must 9 = .ok (.ifCond .ne 7, 3) := by decide +kernel
theorem dX5_must_12 : decode cX5_must 12 = .ok (.iconst 1, 1) := by decide +kernel
theorem dX5_must_13 : decode cX5_must 13 = .ok (.goto 4, 3) := by decide +kernel
theorem dX5_must_16 : decode cX5_must 16 = .ok (.iconst 0, 1) := by decide +kernel
theorem dX5_must_17 : decode cX5_must 17 = .ok (.putfield 235, 3) := by decide +kernel
theorem dX5_must_20 : decode cX5_must 20 = .ok (.aload_n 0, 1) := by decide +kernel
theorem dX5_must_21 : decode cX5_must 21 = .ok (.getfield 235, 3) := by decide +kernel
theorem dX5_must_24 : decode cX5_must 24 = .ok (.ifCond .ne 7, 3) := by decide +kernel
theorem dX5_must_27 : decode cX5_must 27 = .ok (.aload_n 0, 1) := by decide +kernel
theorem dX5_must_28 : decode cX5_must 28 = .ok (.invokevirtual 239, 3) := by decide +kernel
theorem dX5_must_31 : decode cX5_must 31 = .ok (.return_, 1) := by decide +kernel
theorem dX5_word_0 : decode cX5_word 0 = .ok (.lconst 0, 1) := by decide +kernel
theorem dX5_word_1 : decode cX5_word 1 = .ok (.lstore_n 1, 1) := by decide +kernel
theorem dX5_word_2 : decode cX5_word 2 = .ok (.aload_n 0, 1) := by decide +kernel
theorem dX5_word_3 : decode cX5_word 3 = .ok (.getfield 223, 3) := by decide +kernel
theorem dX5_word_6 : decode cX5_word 6 = .ok (.istore_n 3, 1) := by decide +kernel
theorem dX5_word_7 : decode cX5_word 7 = .ok (.iload_n 3, 1) := by decide +kernel
theorem dX5_word_8 : decode cX5_word 8 = .ok (.aload_n 0, 1) := by decide +kernel
theorem dX5_word_9 : decode cX5_word 9 = .ok (.getfield 220, 3) := by decide +kernel
theorem dX5_word_12 : decode cX5_word 12 = .ok (.if_icmp .ge 38, 3) := by decide +kernel
theorem dX5_word_15 : decode cX5_word 15 = .ok (.lload_n 1, 1) := by decide +kernel
theorem dX5_word_16 : decode cX5_word 16 = .ok (.ldc2_w 242, 3) := by decide +kernel
theorem dX5_word_19 : decode cX5_word 19 = .ok (.lcmp, 1) := by decide +kernel
theorem dX5_word_20 : decode cX5_word 20 = .ok (.ifCond .le 7, 3) := by decide +kernel
theorem dX5_word_23 : decode cX5_word 23 = .ok (.lload_n 1, 1) := by decide +kernel
theorem dX5_word_24 : decode cX5_word 24 = .ok (.goto 19, 3) := by decide +kernel
theorem dX5_word_27 : decode cX5_word 27 = .ok (.ldc2_w 244, 3) := by decide +kernel
theorem dX5_word_30 : decode cX5_word 30 = .ok (.lload_n 1, 1) := by decide +kernel
theorem dX5_word_31 : decode cX5_word 31 = .ok (.lmul, 1) := by decide +kernel
theorem dX5_word_32 : decode cX5_word 32 = .ok (.aload_n 0, 1) := by decide +kernel
theorem dX5_word_33 : decode cX5_word 33 = .ok (.getfield 25, 3) := by decide +kernel
theorem dX5_word_36 : decode cX5_word 36 = .ok (.iload_n 3, 1) := by decide +kernel
theorem dX5_word_37 : decode cX5_word 37 = .ok (.iaload, 1) := by decide +kernel
theorem dX5_word_38 : decode cX5_word 38 = .ok (.bipush 96, 2) := by decide +kernel
theorem dX5_word_40 : decode cX5_word 40 = .ok (.isub, 1) := by decide +kernel
theorem dX5_word_41 : decode cX5_word 41 = .ok (.i2l, 1) := by decide +kernel
theorem dX5_word_42 : decode cX5_word 42 = .ok (.ladd, 1) := by decide +kernel
theorem dX5_word_43 : decode cX5_word 43 = .ok (.lstore_n 1, 1) := by decide +kernel
theorem dX5_word_44 : decode cX5_word 44 = .ok (.iinc 3 1, 3) := by decide +kernel
theorem dX5_word_47 : decode cX5_word 47 = .ok (.goto (-40), 3) := by decide +kernel
theorem dX5_word_50 : decode cX5_word 50 = .ok (.aload_n 0, 1) := by decide +kernel
theorem dX5_word_51 : decode cX5_word 51 = .ok (.getfield 235, 3) := by decide +kernel
theorem dX5_word_54 : decode cX5_word 54 = .ok (.ifCond .ne 17, 3) := by decide +kernel
theorem dX5_word_57 : decode cX5_word 57 = .ok (.aload_n 0, 1) := by decide +kernel
theorem dX5_word_58 : decode cX5_word 58 = .ok (.aload_n 0, 1) := by decide +kernel
theorem dX5_word_59 : decode cX5_word 59 = .ok (.getfield 223, 3) := by decide +kernel
theorem dX5_word_62 : decode cX5_word 62 = .ok (.invokevirtual 226, 3) := by decide +kernel
theorem dX5_word_65 : decode cX5_word 65 = .ok (.invokestatic 229, 3) := by decide +kernel
theorem dX5_word_68 : decode cX5_word 68 = .ok (.ifCond .ne 7, 3) := by decide +kernel
theorem dX5_word_71 : decode cX5_word 71 = .ok (.lconst 0, 1) := by decide +kernel
theorem dX5_word_72 : decode cX5_word 72 = .ok (.goto 4, 3) := by decide +kernel
theorem dX5_word_75 : decode cX5_word 75 = .ok (.lload_n 1, 1) := by decide +kernel
theorem dX5_word_76 : decode cX5_word 76 = .ok (.lreturn, 1) := by decide +kernel
theorem dX5_number_0 : decode cX5_number 0 = .ok (.aload_n 0, 1) := by decide +kernel
theorem dX5_number_1 : decode cX5_number 1 = .ok (.getfield 235, 3) := by decide +kernel
theorem dX5_number_4 : decode cX5_number 4 = .ok (.ifCond .eq 4, 3) := by decide +kernel
theorem dX5_number_7 : decode cX5_number 7 = .ok (.return_, 1) := by decide +kernel
theorem dX5_number_8 : decode cX5_number 8 = .ok (.aload_n 0, 1) := by decide +kernel
theorem dX5_number_9 : decode cX5_number 9 = .ok (.aload_n 0, 1) := by decide +kernel
theorem dX5_number_10 : decode cX5_number 10 = .ok (.getfield 223, 3) := by decide +kernel
theorem dX5_number_13 : decode cX5_number 13 = .ok (.invokevirtual 226, 3) := by decide +kernel
theorem dX5_number_16 : decode cX5_number 16 = .ok (.invokestatic 232, 3) := by decide +kernel
theorem dX5_number_19 : decode cX5_number 19 = .ok (.istore_n 3, 1) := by decide +kernel
theorem dX5_number_20 : decode cX5_number 20 = .ok (.iconst 0, 1) := by decide +kernel
theorem dX5_number_21 : decode cX5_number 21 = .ok (.istore 4, 2) := by decide +kernel
theorem dX5_number_23 : decode cX5_number 23 = .ok (.aload_n 0, 1) := by decide +kernel
theorem dX5_number_24 : decode cX5_number 24 = .ok (.getfield 223, 3) := by decide +kernel
theorem dX5_number_27 : decode cX5_number 27 = .ok (.istore 5, 2) := by decide +kernel
theorem dX5_number_29 : decode cX5_number 29 = .ok (.iload 5, 2) := by decide +kernel
theorem dX5_number_31 : decode cX5_number 31 = .ok (.aload_n 0, 1) := by decide +kernel
theorem dX5_number_32 : decode cX5_number 32 = .ok (.getfield 220, 3) := by decide +kernel
theorem dX5_number_35 : decode cX5_number 35 = .ok (.if_icmp .ge 44, 3) := by decide +kernel
theorem dX5_number_38 : decode cX5_number 38 = .ok (.iload_n 3, 1) := by decide +kernel
theorem dX5_number_39 : decode cX5_number 39 = .ok (.ifCond .eq 40, 3) := by decide +kernel
theorem dX5_number_42 : decode cX5_number 42 = .ok (.iload 4, 2) := by decide +kernel
theorem dX5_number_44 : decode cX5_number 44 = .ok (.sipush 999, 3) := by decide +kernel
theorem dX5_number_47 : decode cX5_number 47 = .ok (.if_icmp .le 8, 3) := by decide +kernel
theorem dX5_number_50 : decode cX5_number 50 = .ok (.iload 4, 2) := by decide +kernel
theorem dX5_number_52 : decode cX5_number 52 = .ok (.goto 19, 3) := by decide +kernel
theorem dX5_number_55 : decode cX5_number 55 = .ok (.bipush 10, 2) := by decide +kernel
theorem dX5_number_57 : decode cX5_number 57 = .ok (.iload 4, 2) := by decide +kernel
theorem dX5_number_59 : decode cX5_number 59 = .ok (.imul, 1) := by decide +kernel
theorem dX5_number_60 : decode cX5_number 60 = .ok (.aload_n 0, 1) := by decide +kernel
theorem dX5_number_61 : decode cX5_number 61 = .ok (.getfield 25, 3) := by decide +kernel
theorem dX5_number_64 : decode cX5_number 64 = .ok (.iload 5, 2) := by decide +kernel
theorem dX5_number_66 : decode cX5_number 66 = .ok (.iaload, 1) := by decide +kernel
theorem dX5_number_67 : decode cX5_number 67 = .ok (.iadd, 1) := by decide +kernel
theorem dX5_number_68 : decode cX5_number 68 = .ok (.bipush 48, 2) := by decide +kernel
theorem dX5_number_70 : decode cX5_number 70 = .ok (.isub, 1) := by decide +kernel
theorem dX5_number_71 : decode cX5_number 71 = .ok (.istore 4, 2) := by decide +kernel
theorem dX5_number_73 : decode cX5_number 73 = .ok (.iinc 5 1, 3) := by decide +kernel
theorem dX5_number_76 : decode cX5_number 76 = .ok (.goto (-47), 3) := by decide +kernel
theorem dX5_number_79 : decode cX5_number 79 = .ok (.aload_n 0, 1) := by decide +kernel
theorem dX5_number_80 : decode cX5_number 80 = .ok (.iload 4, 2) := by decide +kernel
theorem dX5_number_82 : decode cX5_number 82 = .ok (.putfield 246, 3) := by decide +kernel
theorem dX5_number_85 : decode cX5_number 85 = .ok (.aload_n 0, 1) := by decide +kernel
theorem dX5_number_86 : decode cX5_number 86 = .ok (.iload_n 3, 1) := by decide +kernel
theorem dX5_number_87 : decode cX5_number 87 = .ok (.ifCond .eq 20, 3) := by decide +kernel
theorem dX5_number_90 : decode cX5_number 90 = .ok (.iload 4, 2) := by decide +kernel
theorem dX5_number_92 : decode cX5_number 92 = .ok (.i2l, 1) := by decide +kernel
theorem dX5_number_93 : decode cX5_number 93 = .ok (.iload_n 1, 1) := by decide +kernel
theorem dX5_number_94 : decode cX5_number 94 = .ok (.i2l, 1) := by decide +kernel
theorem dX5_number_95 : decode cX5_number 95 = .ok (.iload_n 2, 1) := by decide +kernel
theorem dX5_number_96 : decode cX5_number 96 = .ok (.i2l, 1) := by decide +kernel
theorem dX5_number_97 : decode cX5_number 97 = .ok (.invokestatic 48, 3) := by decide +kernel
theorem dX5_number_100 : decode cX5_number 100 = .ok (.ifCond .eq 7, 3) := by decide +kernel
theorem dX5_number_103 : decode cX5_number 103 = .ok (.iconst 1, 1) := by decide +kernel
theorem dX5_number_104 : decode cX5_number 104 = .ok (.goto 4, 3) := by decide +kernel
theorem dX5_number_107 : decode cX5_number 107 = .ok (.iconst 0, 1) := by decide +kernel
theorem dX5_number_108 : decode cX5_number 108 = .ok (.invokevirtual 249, 3) := by decide +kernel
theorem dX5_number_111 : decode cX5_number 111 = .ok (.return_, 1) := by decide +kernel
theorem dX5_kindHere_0 : decode cX5_kindHere 0 = .ok (.aload_n 0, 1) := by decide +kernel
theorem dX5_kindHere_1 : decode cX5_kindHere 1 = .ok (.invokevirtual 253, 3) := by decide +kernel
theorem dX5_kindHere_4 : decode cX5_kindHere 4 = .ok (.lstore_n 1, 1) := by decide +kernel
theorem dX5_kindHere_5 : decode cX5_kindHere 5 = .ok (.lload_n 1, 1) := by decide +kernel
theorem dX5_kindHere_6 : decode cX5_kindHere 6 = .ok (.ldc2_w 257, 3) := by decide +kernel
theorem dX5_kindHere_9 : decode cX5_kindHere 9 = .ok (.lcmp, 1) := by decide +kernel
theorem dX5_kindHere_10 : decode cX5_kindHere 10 = .ok (.ifCond .ne 7, 3) := by decide +kernel
theorem dX5_kindHere_13 : decode cX5_kindHere 13 = .ok (.iconst 0, 1) := by decide +kernel
theorem dX5_kindHere_14 : decode cX5_kindHere 14 = .ok (.goto 64, 3) := by decide +kernel
theorem dX5_kindHere_17 : decode cX5_kindHere 17 = .ok (.lload_n 1, 1) := by decide +kernel
theorem dX5_kindHere_18 : decode cX5_kindHere 18 = .ok (.ldc2_w 259, 3) := by decide +kernel
theorem dX5_kindHere_21 : decode cX5_kindHere 21 = .ok (.lcmp, 1) := by decide +kernel
theorem dX5_kindHere_22 : decode cX5_kindHere 22 = .ok (.ifCond .ne 7, 3) := by decide +kernel
theorem dX5_kindHere_25 : decode cX5_kindHere 25 = .ok (.iconst 1, 1) := by decide +kernel
theorem dX5_kindHere_26 : decode cX5_kindHere 26 = .ok (.goto 52, 3) := by decide +kernel
theorem dX5_kindHere_29 : decode cX5_kindHere 29 = .ok (.lload_n 1, 1) := by decide +kernel
theorem dX5_kindHere_30 : decode cX5_kindHere 30 = .ok (.ldc2_w 261, 3) := by decide +kernel
theorem dX5_kindHere_33 : decode cX5_kindHere 33 = .ok (.lcmp, 1) := by decide +kernel
theorem dX5_kindHere_34 : decode cX5_kindHere 34 = .ok (.ifCond .ne 7, 3) := by decide +kernel
theorem dX5_kindHere_37 : decode cX5_kindHere 37 = .ok (.iconst 2, 1) := by decide +kernel
theorem dX5_kindHere_38 : decode cX5_kindHere 38 = .ok (.goto 40, 3) := by decide +kernel
theorem dX5_kindHere_41 : decode cX5_kindHere 41 = .ok (.lload_n 1, 1) := by decide +kernel
theorem dX5_kindHere_42 : decode cX5_kindHere 42 = .ok (.ldc2_w 263, 3) := by decide +kernel
theorem dX5_kindHere_45 : decode cX5_kindHere 45 = .ok (.lcmp, 1) := by decide +kernel
theorem dX5_kindHere_46 : decode cX5_kindHere 46 = .ok (.ifCond .ne 7, 3) := by decide +kernel
theorem dX5_kindHere_49 : decode cX5_kindHere 49 = .ok (.iconst 3, 1) := by decide +kernel
theorem dX5_kindHere_50 : decode cX5_kindHere 50 = .ok (.goto 28, 3) := by decide +kernel
theorem dX5_kindHere_53 : decode cX5_kindHere 53 = .ok (.lload_n 1, 1) := by decide +kernel
theorem dX5_kindHere_54 : decode cX5_kindHere 54 = .ok (.ldc2_w 265, 3) := by decide +kernel
theorem dX5_kindHere_57 : decode cX5_kindHere 57 = .ok (.lcmp, 1) := by decide +kernel
theorem dX5_kindHere_58 : decode cX5_kindHere 58 = .ok (.ifCond .ne 7, 3) := by decide +kernel
theorem dX5_kindHere_61 : decode cX5_kindHere 61 = .ok (.iconst 4, 1) := by decide +kernel
theorem dX5_kindHere_62 : decode cX5_kindHere 62 = .ok (.goto 16, 3) := by decide +kernel
theorem dX5_kindHere_65 : decode cX5_kindHere 65 = .ok (.lload_n 1, 1) := by decide +kernel
theorem dX5_kindHere_66 : decode cX5_kindHere 66 = .ok (.ldc2_w 267, 3) := by decide +kernel
theorem dX5_kindHere_69 : decode cX5_kindHere 69 = .ok (.lcmp, 1) := by decide +kernel
theorem dX5_kindHere_70 : decode cX5_kindHere 70 = .ok (.ifCond .ne 7, 3) := by decide +kernel
theorem dX5_kindHere_73 : decode cX5_kindHere 73 = .ok (.iconst 5, 1) := by decide +kernel
theorem dX5_kindHere_74 : decode cX5_kindHere 74 = .ok (.goto 4, 3) := by decide +kernel
theorem dX5_kindHere_77 : decode cX5_kindHere 77 = .ok (.iconst (-1), 1) := by decide +kernel
theorem dX5_kindHere_78 : decode cX5_kindHere 78 = .ok (.ireturn, 1) := by decide +kernel
theorem dX5_partItem_0 : decode cX5_partItem 0 = .ok (.aload_n 0, 1) := by decide +kernel
theorem dX5_partItem_1 : decode cX5_partItem 1 = .ok (.invokevirtual 253, 3) := by decide +kernel
theorem dX5_partItem_4 : decode cX5_partItem 4 = .ok (.lload_n 1, 1) := by decide +kernel
theorem dX5_partItem_5 : decode cX5_partItem 5 = .ok (.lcmp, 1) := by decide +kernel
theorem dX5_partItem_6 : decode cX5_partItem 6 = .ok (.ifCond .ne 41, 3) := by decide +kernel
theorem dX5_partItem_9 : decode cX5_partItem 9 = .ok (.aload_n 0, 1) := by decide +kernel
theorem dX5_partItem_10 : decode cX5_partItem 10 = .ok (.iconst 1, 1) := by decide +kernel
theorem dX5_partItem_11 : decode cX5_partItem 11 = .ok (.invokevirtual 249, 3) := by decide +kernel
theorem dX5_partItem_14 : decode cX5_partItem 14 = .ok (.aload_n 0, 1) := by decide +kernel
theorem dX5_partItem_15 : decode cX5_partItem 15 = .ok (.iconst 0, 1) := by decide +kernel
theorem dX5_partItem_16 : decode cX5_partItem 16 = .ok (.iload 4, 2) := by decide +kernel
theorem dX5_partItem_18 : decode cX5_partItem 18 = .ok (.invokevirtual 269, 3) := by decide +kernel
theorem dX5_partItem_21 : decode cX5_partItem 21 = .ok (.aload_n 0, 1) := by decide +kernel
theorem dX5_partItem_22 : decode cX5_partItem 22 = .ok (.getfield 7, 3) := by decide +kernel
theorem dX5_partItem_25 : decode cX5_partItem 25 = .ok (.iload_n 3, 1) := by decide +kernel
theorem dX5_partItem_26 : decode cX5_partItem 26 = .ok (.aload_n 0, 1) := by decide +kernel
theorem dX5_partItem_27 : decode cX5_partItem 27 = .ok (.getfield 235, 3) := by decide +kernel
theorem dX5_partItem_30 : decode cX5_partItem 30 = .ok (.ifCond .eq 12, 3) := by decide +kernel
theorem dX5_partItem_33 : decode cX5_partItem 33 = .ok (.aload_n 0, 1) := by decide +kernel
theorem dX5_partItem_34 : decode cX5_partItem 34 = .ok (.getfield 7, 3) := by decide +kernel
theorem dX5_partItem_37 : decode cX5_partItem 37 = .ok (.iload_n 3, 1) := by decide +kernel
theorem dX5_partItem_38 : decode cX5_partItem 38 = .ok (.iaload, 1) := by decide +kernel
theorem dX5_partItem_39 : decode cX5_partItem 39 = .ok (.goto 7, 3) := by decide +kernel
theorem dX5_partItem_42 : decode cX5_partItem 42 = .ok (.aload_n 0, 1) := by decide +kernel
theorem dX5_partItem_43 : decode cX5_partItem 43 = .ok (.getfield 246, 3) := by decide +kernel
theorem dX5_partItem_46 : decode cX5_partItem 46 = .ok (.iastore, 1) := by decide +kernel
theorem dX5_partItem_47 : decode cX5_partItem 47 = .ok (.return_, 1) := by decide +kernel
theorem dX5_peeked_0 : decode cX5_peeked 0 = .ok (.aload_n 0, 1) := by decide +kernel
theorem dX5_peeked_1 : decode cX5_peeked 1 = .ok (.getfield 235, 3) := by decide +kernel
theorem dX5_peeked_4 : decode cX5_peeked 4 = .ok (.ifCond .ne 17, 3) := by decide +kernel
theorem dX5_peeked_7 : decode cX5_peeked 7 = .ok (.aload_n 0, 1) := by decide +kernel
theorem dX5_peeked_8 : decode cX5_peeked 8 = .ok (.aload_n 0, 1) := by decide +kernel
theorem dX5_peeked_9 : decode cX5_peeked 9 = .ok (.getfield 223, 3) := by decide +kernel
theorem dX5_peeked_12 : decode cX5_peeked 12 = .ok (.invokevirtual 226, 3) := by decide +kernel
theorem dX5_peeked_15 : decode cX5_peeked 15 = .ok (.invokestatic 232, 3) := by decide +kernel
theorem dX5_peeked_18 : decode cX5_peeked 18 = .ok (.ifCond .ne 5, 3) := by decide +kernel
theorem dX5_peeked_21 : decode cX5_peeked 21 = .ok (.iconst (-1), 1) := by decide +kernel
theorem dX5_peeked_22 : decode cX5_peeked 22 = .ok (.ireturn, 1) := by decide +kernel
theorem dX5_peeked_23 : decode cX5_peeked 23 = .ok (.iconst 0, 1) := by decide +kernel
theorem dX5_peeked_24 : decode cX5_peeked 24 = .ok (.istore_n 1, 1) := by decide +kernel
theorem dX5_peeked_25 : decode cX5_peeked 25 = .ok (.aload_n 0, 1) := by decide +kernel
theorem dX5_peeked_26 : decode cX5_peeked 26 = .ok (.getfield 223, 3) := by decide +kernel
theorem dX5_peeked_29 : decode cX5_peeked 29 = .ok (.istore_n 2, 1) := by decide +kernel
theorem dX5_peeked_30 : decode cX5_peeked 30 = .ok (.iload_n 2, 1) := by decide +kernel
theorem dX5_peeked_31 : decode cX5_peeked 31 = .ok (.aload_n 0, 1) := by decide +kernel
theorem dX5_peeked_32 : decode cX5_peeked 32 = .ok (.getfield 220, 3) := by decide +kernel
theorem dX5_peeked_35 : decode cX5_peeked 35 = .ok (.if_icmp .ge 36, 3) := by decide +kernel
theorem dX5_peeked_38 : decode cX5_peeked 38 = .ok (.iload_n 1, 1) := by decide +kernel
theorem dX5_peeked_39 : decode cX5_peeked 39 = .ok (.bipush 99, 2) := by decide +kernel
theorem dX5_peeked_41 : decode cX5_peeked 41 = .ok (.if_icmp .le 9, 3) := by decide +kernel
theorem dX5_peeked_44 : decode cX5_peeked 44 = .ok (.sipush 1000, 3) := by decide +kernel
theorem dX5_peeked_47 : decode cX5_peeked 47 = .ok (.goto 17, 3) := by decide +kernel
theorem dX5_peeked_50 : decode cX5_peeked 50 = .ok (.bipush 10, 2) := by decide +kernel
theorem dX5_peeked_52 : decode cX5_peeked 52 = .ok (.iload_n 1, 1) := by decide +kernel
theorem dX5_peeked_53 : decode cX5_peeked 53 = .ok (.imul, 1) := by decide +kernel
theorem dX5_peeked_54 : decode cX5_peeked 54 = .ok (.aload_n 0, 1) := by decide +kernel
theorem dX5_peeked_55 : decode cX5_peeked 55 = .ok (.getfield 25, 3) := by decide +kernel
theorem dX5_peeked_58 : decode cX5_peeked 58 = .ok (.iload_n 2, 1) := by decide +kernel
theorem dX5_peeked_59 : decode cX5_peeked 59 = .ok (.iaload, 1) := by decide +kernel
theorem dX5_peeked_60 : decode cX5_peeked 60 = .ok (.iadd, 1) := by decide +kernel
theorem dX5_peeked_61 : decode cX5_peeked 61 = .ok (.bipush 48, 2) := by decide +kernel
theorem dX5_peeked_63 : decode cX5_peeked 63 = .ok (.isub, 1) := by decide +kernel
theorem dX5_peeked_64 : decode cX5_peeked 64 = .ok (.istore_n 1, 1) := by decide +kernel
theorem dX5_peeked_65 : decode cX5_peeked 65 = .ok (.iinc 2 1, 3) := by decide +kernel
theorem dX5_peeked_68 : decode cX5_peeked 68 = .ok (.goto (-38), 3) := by decide +kernel
theorem dX5_peeked_71 : decode cX5_peeked 71 = .ok (.iload_n 1, 1) := by decide +kernel
theorem dX5_peeked_72 : decode cX5_peeked 72 = .ok (.ireturn, 1) := by decide +kernel
theorem dX5_rumourItem_0 : decode cX5_rumourItem 0 = .ok (.aload_n 0, 1) := by decide +kernel
theorem dX5_rumourItem_1 : decode cX5_rumourItem 1 = .ok (.aload_n 0, 1) := by decide +kernel
theorem dX5_rumourItem_2 : decode cX5_rumourItem 2 = .ok (.getfield 7, 3) := by decide +kernel
theorem dX5_rumourItem_5 : decode cX5_rumourItem 5 = .ok (.iconst 0, 1) := by decide +kernel
theorem dX5_rumourItem_6 : decode cX5_rumourItem 6 = .ok (.iaload, 1) := by decide +kernel
theorem dX5_rumourItem_7 : decode cX5_rumourItem 7 = .ok (.bipush 10, 2) := by decide +kernel
theorem dX5_rumourItem_9 : decode cX5_rumourItem 9 = .ok (.if_icmp .ge 7, 3) := by decide +kernel
theorem dX5_rumourItem_12 : decode cX5_rumourItem 12 = .ok (.iconst 1, 1) := by decide +kernel
theorem dX5_rumourItem_13 : decode cX5_rumourItem 13 = .ok (.goto 4, 3) := by decide +kernel
theorem dX5_rumourItem_16 : decode cX5_rumourItem 16 = .ok (.iconst 0, 1) := by decide +kernel
theorem dX5_rumourItem_17 : decode cX5_rumourItem 17 = .ok (.invokevirtual 249, 3) := by decide +kernel
theorem dX5_rumourItem_20 : decode cX5_rumourItem 20 = .ok (.aload_n 0, 1) := by decide +kernel
theorem dX5_rumourItem_21 : decode cX5_rumourItem 21 = .ok (.aload_n 0, 1) := by decide +kernel
theorem dX5_rumourItem_22 : decode cX5_rumourItem 22 = .ok (.invokevirtual 253, 3) := by decide +kernel
theorem dX5_rumourItem_25 : decode cX5_rumourItem 25 = .ok (.ldc2_w 272, 3) := by decide +kernel
theorem dX5_rumourItem_28 : decode cX5_rumourItem 28 = .ok (.lcmp, 1) := by decide +kernel
theorem dX5_rumourItem_29 : decode cX5_rumourItem 29 = .ok (.ifCond .ne 7, 3) := by decide +kernel
theorem dX5_rumourItem_32 : decode cX5_rumourItem 32 = .ok (.iconst 1, 1) := by decide +kernel
theorem dX5_rumourItem_33 : decode cX5_rumourItem 33 = .ok (.goto 4, 3) := by decide +kernel
theorem dX5_rumourItem_36 : decode cX5_rumourItem 36 = .ok (.iconst 0, 1) := by decide +kernel
theorem dX5_rumourItem_37 : decode cX5_rumourItem 37 = .ok (.invokevirtual 249, 3) := by decide +kernel
theorem dX5_rumourItem_40 : decode cX5_rumourItem 40 = .ok (.aload_n 0, 1) := by decide +kernel
theorem dX5_rumourItem_41 : decode cX5_rumourItem 41 = .ok (.iconst 0, 1) := by decide +kernel
theorem dX5_rumourItem_42 : decode cX5_rumourItem 42 = .ok (.bipush 15, 2) := by decide +kernel
theorem dX5_rumourItem_44 : decode cX5_rumourItem 44 = .ok (.invokevirtual 269, 3) := by decide +kernel
theorem dX5_rumourItem_47 : decode cX5_rumourItem 47 = .ok (.aload_n 0, 1) := by decide +kernel
theorem dX5_rumourItem_48 : decode cX5_rumourItem 48 = .ok (.getfield 235, 3) := by decide +kernel
theorem dX5_rumourItem_51 : decode cX5_rumourItem 51 = .ok (.ifCond .eq 4, 3) := by decide +kernel
theorem dX5_rumourItem_54 : decode cX5_rumourItem 54 = .ok (.return_, 1) := by decide +kernel
theorem dX5_rumourItem_55 : decode cX5_rumourItem 55 = .ok (.aload_n 0, 1) := by decide +kernel
theorem dX5_rumourItem_56 : decode cX5_rumourItem 56 = .ok (.iload_n 1, 1) := by decide +kernel
theorem dX5_rumourItem_57 : decode cX5_rumourItem 57 = .ok (.aload_n 0, 1) := by decide +kernel
theorem dX5_rumourItem_58 : decode cX5_rumourItem 58 = .ok (.getfield 246, 3) := by decide +kernel
theorem dX5_rumourItem_61 : decode cX5_rumourItem 61 = .ok (.invokevirtual 103, 3) := by decide +kernel
theorem dX5_rumourItem_64 : decode cX5_rumourItem 64 = .ok (.istore_n 2, 1) := by decide +kernel
theorem dX5_rumourItem_65 : decode cX5_rumourItem 65 = .ok (.aload_n 0, 1) := by decide +kernel
theorem dX5_rumourItem_66 : decode cX5_rumourItem 66 = .ok (.ldc2_w 274, 3) := by decide +kernel
theorem dX5_rumourItem_69 : decode cX5_rumourItem 69 = .ok (.iload_n 2, 1) := by decide +kernel
theorem dX5_rumourItem_70 : decode cX5_rumourItem 70 = .ok (.iconst 2, 1) := by decide +kernel
theorem dX5_rumourItem_71 : decode cX5_rumourItem 71 = .ok (.invokestatic 56, 3) := by decide +kernel
theorem dX5_rumourItem_74 : decode cX5_rumourItem 74 = .ok (.bipush 99, 2) := by decide +kernel
theorem dX5_rumourItem_76 : decode cX5_rumourItem 76 = .ok (.invokevirtual 276, 3) := by decide +kernel
theorem dX5_rumourItem_79 : decode cX5_rumourItem 79 = .ok (.aload_n 0, 1) := by decide +kernel
theorem dX5_rumourItem_80 : decode cX5_rumourItem 80 = .ok (.invokevirtual 253, 3) := by decide +kernel
theorem dX5_rumourItem_83 : decode cX5_rumourItem 83 = .ok (.ldc2_w 280, 3) := by decide +kernel
theorem dX5_rumourItem_86 : decode cX5_rumourItem 86 = .ok (.lcmp, 1) := by decide +kernel
theorem dX5_rumourItem_87 : decode cX5_rumourItem 87 = .ok (.ifCond .ne 59, 3) := by decide +kernel
theorem dX5_rumourItem_90 : decode cX5_rumourItem 90 = .ok (.aload_n 0, 1) := by decide +kernel
theorem dX5_rumourItem_91 : decode cX5_rumourItem 91 = .ok (.iconst 1, 1) := by decide +kernel
theorem dX5_rumourItem_92 : decode cX5_rumourItem 92 = .ok (.invokevirtual 249, 3) := by decide +kernel
theorem dX5_rumourItem_95 : decode cX5_rumourItem 95 = .ok (.aload_n 0, 1) := by decide +kernel
theorem dX5_rumourItem_96 : decode cX5_rumourItem 96 = .ok (.invokevirtual 282, 3) := by decide +kernel
theorem dX5_rumourItem_99 : decode cX5_rumourItem 99 = .ok (.istore_n 3, 1) := by decide +kernel
theorem dX5_rumourItem_100 : decode cX5_rumourItem 100 = .ok (.aload_n 0, 1) := by decide +kernel
theorem dX5_rumourItem_101 : decode cX5_rumourItem 101 = .ok (.iload_n 3, 1) := by decide +kernel
theorem dX5_rumourItem_102 : decode cX5_rumourItem 102 = .ok (.invokestatic 67, 3) := by decide +kernel
theorem dX5_rumourItem_105 : decode cX5_rumourItem 105 = .ok (.ifCond .eq 15, 3) := by decide +kernel
theorem dX5_rumourItem_108 : decode cX5_rumourItem 108 = .ok (.aload_n 0, 1) := by decide +kernel
theorem dX5_rumourItem_109 : decode cX5_rumourItem 109 = .ok (.iload_n 3, 1) := by decide +kernel
theorem dX5_rumourItem_110 : decode cX5_rumourItem 110 = .ok (.invokevirtual 125, 3) := by decide +kernel
theorem dX5_rumourItem_113 : decode cX5_rumourItem 113 = .ok (.ifCond .eq 7, 3) := by decide +kernel
theorem dX5_rumourItem_116 : decode cX5_rumourItem 116 = .ok (.iconst 1, 1) := by decide +kernel
theorem dX5_rumourItem_117 : decode cX5_rumourItem 117 = .ok (.goto 4, 3) := by decide +kernel
theorem dX5_rumourItem_120 : decode cX5_rumourItem 120 = .ok (.iconst 0, 1) := by decide +kernel
theorem dX5_rumourItem_121 : decode cX5_rumourItem 121 = .ok (.invokevirtual 249, 3) := by decide +kernel
theorem dX5_rumourItem_124 : decode cX5_rumourItem 124 = .ok (.aload_n 0, 1) := by decide +kernel
theorem dX5_rumourItem_125 : decode cX5_rumourItem 125 = .ok (.getfield 7, 3) := by decide +kernel
theorem dX5_rumourItem_128 : decode cX5_rumourItem 128 = .ok (.iload_n 2, 1) := by decide +kernel
theorem dX5_rumourItem_129 : decode cX5_rumourItem 129 = .ok (.iconst 4, 1) := by decide +kernel
theorem dX5_rumourItem_130 : decode cX5_rumourItem 130 = .ok (.invokestatic 56, 3) := by decide +kernel
theorem dX5_rumourItem_133 : decode cX5_rumourItem 133 = .ok (.aload_n 0, 1) := by decide +kernel
theorem dX5_rumourItem_134 : decode cX5_rumourItem 134 = .ok (.getfield 235, 3) := by decide +kernel
theorem dX5_rumourItem_137 : decode cX5_rumourItem 137 = .ok (.ifCond .eq 7, 3) := by decide +kernel
theorem dX5_rumourItem_140 : decode cX5_rumourItem 140 = .ok (.iconst (-1), 1) := by decide +kernel
theorem dX5_rumourItem_141 : decode cX5_rumourItem 141 = .ok (.goto 4, 3) := by decide +kernel
theorem dX5_rumourItem_144 : decode cX5_rumourItem 144 = .ok (.iload_n 3, 1) := by decide +kernel
theorem dX5_rumourItem_145 : decode cX5_rumourItem 145 = .ok (.iastore, 1) := by decide +kernel
theorem dX5_rumourItem_146 : decode cX5_rumourItem 146 = .ok (.return_, 1) := by decide +kernel
theorem dX5_houseItem_0 : decode cX5_houseItem 0 = .ok (.aload_n 0, 1) := by decide +kernel
theorem dX5_houseItem_1 : decode cX5_houseItem 1 = .ok (.iconst 1, 1) := by decide +kernel
theorem dX5_houseItem_2 : decode cX5_houseItem 2 = .ok (.invokevirtual 249, 3) := by decide +kernel
theorem dX5_houseItem_5 : decode cX5_houseItem 5 = .ok (.aload_n 0, 1) := by decide +kernel
theorem dX5_houseItem_6 : decode cX5_houseItem 6 = .ok (.iconst 0, 1) := by decide +kernel
theorem dX5_houseItem_7 : decode cX5_houseItem 7 = .ok (.bipush 7, 2) := by decide +kernel
theorem dX5_houseItem_9 : decode cX5_houseItem 9 = .ok (.invokevirtual 269, 3) := by decide +kernel
theorem dX5_houseItem_12 : decode cX5_houseItem 12 = .ok (.aload_n 0, 1) := by decide +kernel
theorem dX5_houseItem_13 : decode cX5_houseItem 13 = .ok (.getfield 235, 3) := by decide +kernel
theorem dX5_houseItem_16 : decode cX5_houseItem 16 = .ok (.ifCond .eq 7, 3) := by decide +kernel
theorem dX5_houseItem_19 : decode cX5_houseItem 19 = .ok (.iconst 0, 1) := by decide +kernel
theorem dX5_houseItem_20 : decode cX5_houseItem 20 = .ok (.goto 7, 3) := by decide +kernel
theorem dX5_houseItem_23 : decode cX5_houseItem 23 = .ok (.aload_n 0, 1) := by decide +kernel
theorem dX5_houseItem_24 : decode cX5_houseItem 24 = .ok (.getfield 246, 3) := by decide +kernel
theorem dX5_houseItem_27 : decode cX5_houseItem 27 = .ok (.istore_n 1, 1) := by decide +kernel
theorem dX5_houseItem_28 : decode cX5_houseItem 28 = .ok (.aload_n 0, 1) := by decide +kernel
theorem dX5_houseItem_29 : decode cX5_houseItem 29 = .ok (.ldc2_w 285, 3) := by decide +kernel
theorem dX5_houseItem_32 : decode cX5_houseItem 32 = .ok (.iload_n 1, 1) := by decide +kernel
theorem dX5_houseItem_33 : decode cX5_houseItem 33 = .ok (.iconst 0, 1) := by decide +kernel
theorem dX5_houseItem_34 : decode cX5_houseItem 34 = .ok (.invokestatic 41, 3) := by decide +kernel
theorem dX5_houseItem_37 : decode cX5_houseItem 37 = .ok (.iconst 3, 1) := by decide +kernel
theorem dX5_houseItem_38 : decode cX5_houseItem 38 = .ok (.invokevirtual 276, 3) := by decide +kernel
theorem dX5_houseItem_41 : decode cX5_houseItem 41 = .ok (.aload_n 0, 1) := by decide +kernel
theorem dX5_houseItem_42 : decode cX5_houseItem 42 = .ok (.ldc2_w 287, 3) := by decide +kernel
theorem dX5_houseItem_45 : decode cX5_houseItem 45 = .ok (.iload_n 1, 1) := by decide +kernel
theorem dX5_houseItem_46 : decode cX5_houseItem 46 = .ok (.iconst 1, 1) := by decide +kernel
theorem dX5_houseItem_47 : decode cX5_houseItem 47 = .ok (.invokestatic 41, 3) := by decide +kernel
theorem dX5_houseItem_50 : decode cX5_houseItem 50 = .ok (.sipush 999, 3) := by decide +kernel
theorem dX5_houseItem_53 : decode cX5_houseItem 53 = .ok (.invokevirtual 276, 3) := by decide +kernel
theorem dX5_houseItem_56 : decode cX5_houseItem 56 = .ok (.aload_n 0, 1) := by decide +kernel
theorem dX5_houseItem_57 : decode cX5_houseItem 57 = .ok (.ldc2_w 289, 3) := by decide +kernel
theorem dX5_houseItem_60 : decode cX5_houseItem 60 = .ok (.iload_n 1, 1) := by decide +kernel
theorem dX5_houseItem_61 : decode cX5_houseItem 61 = .ok (.iconst 2, 1) := by decide +kernel
theorem dX5_houseItem_62 : decode cX5_houseItem 62 = .ok (.invokestatic 41, 3) := by decide +kernel
theorem dX5_houseItem_65 : decode cX5_houseItem 65 = .ok (.bipush 9, 2) := by decide +kernel
theorem dX5_houseItem_67 : decode cX5_houseItem 67 = .ok (.invokevirtual 276, 3) := by decide +kernel
theorem dX5_houseItem_70 : decode cX5_houseItem 70 = .ok (.return_, 1) := by decide +kernel
theorem dX5_item_0 : decode cX5_item 0 = .ok (.aload_n 0, 1) := by decide +kernel
theorem dX5_item_1 : decode cX5_item 1 = .ok (.invokevirtual 291, 3) := by decide +kernel
theorem dX5_item_4 : decode cX5_item 4 = .ok (.istore_n 1, 1) := by decide +kernel
theorem dX5_item_5 : decode cX5_item 5 = .ok (.aload_n 0, 1) := by decide +kernel
theorem dX5_item_6 : decode cX5_item 6 = .ok (.invokevirtual 253, 3) := by decide +kernel
theorem dX5_item_9 : decode cX5_item 9 = .ok (.lstore_n 2, 1) := by decide +kernel
theorem dX5_item_10 : decode cX5_item 10 = .ok (.iload_n 1, 1) := by decide +kernel
theorem dX5_item_11 : decode cX5_item 11 = .ok (.ifCond .lt 11, 3) := by decide +kernel
theorem dX5_item_14 : decode cX5_item 14 = .ok (.aload_n 0, 1) := by decide +kernel
theorem dX5_item_15 : decode cX5_item 15 = .ok (.iload_n 1, 1) := by decide +kernel
theorem dX5_item_16 : decode cX5_item 16 = .ok (.invokevirtual 294, 3) := by decide +kernel
theorem dX5_item_19 : decode cX5_item 19 = .ok (.goto 59, 3) := by decide +kernel
theorem dX5_item_22 : decode cX5_item 22 = .ok (.lload_n 2, 1) := by decide +kernel
theorem dX5_item_23 : decode cX5_item 23 = .ok (.ldc2_w 297, 3) := by decide +kernel
theorem dX5_item_26 : decode cX5_item 26 = .ok (.lcmp, 1) := by decide +kernel
theorem dX5_item_27 : decode cX5_item 27 = .ok (.ifCond .ne 10, 3) := by decide +kernel
theorem dX5_item_30 : decode cX5_item 30 = .ok (.aload_n 0, 1) := by decide +kernel
theorem dX5_item_31 : decode cX5_item 31 = .ok (.invokevirtual 299, 3) := by decide +kernel
theorem dX5_item_34 : decode cX5_item 34 = .ok (.goto 44, 3) := by decide +kernel
theorem dX5_item_37 : decode cX5_item 37 = .ok (.aload_n 0, 1) := by decide +kernel
theorem dX5_item_38 : decode cX5_item 38 = .ok (.lload_n 2, 1) := by decide +kernel
theorem dX5_item_39 : decode cX5_item 39 = .ok (.ldc2_w 302, 3) := by decide +kernel
theorem dX5_item_42 : decode cX5_item 42 = .ok (.lcmp, 1) := by decide +kernel
theorem dX5_item_43 : decode cX5_item 43 = .ok (.ifCond .ne 7, 3) := by decide +kernel
theorem dX5_item_46 : decode cX5_item 46 = .ok (.iconst 1, 1) := by decide +kernel
theorem dX5_item_47 : decode cX5_item 47 = .ok (.goto 4, 3) := by decide +kernel
theorem dX5_item_50 : decode cX5_item 50 = .ok (.iconst 0, 1) := by decide +kernel
theorem dX5_item_51 : decode cX5_item 51 = .ok (.invokevirtual 249, 3) := by decide +kernel
theorem dX5_item_54 : decode cX5_item 54 = .ok (.aload_n 0, 1) := by decide +kernel
theorem dX5_item_55 : decode cX5_item 55 = .ok (.iconst 0, 1) := by decide +kernel
theorem dX5_item_56 : decode cX5_item 56 = .ok (.bipush 15, 2) := by decide +kernel
theorem dX5_item_58 : decode cX5_item 58 = .ok (.invokevirtual 269, 3) := by decide +kernel
theorem dX5_item_61 : decode cX5_item 61 = .ok (.aload_n 0, 1) := by decide +kernel
theorem dX5_item_62 : decode cX5_item 62 = .ok (.getfield 235, 3) := by decide +kernel
theorem dX5_item_65 : decode cX5_item 65 = .ok (.ifCond .ne 13, 3) := by decide +kernel
theorem dX5_item_68 : decode cX5_item 68 = .ok (.aload_n 0, 1) := by decide +kernel
theorem dX5_item_69 : decode cX5_item 69 = .ok (.aload_n 0, 1) := by decide +kernel
theorem dX5_item_70 : decode cX5_item 70 = .ok (.getfield 246, 3) := by decide +kernel
theorem dX5_item_73 : decode cX5_item 73 = .ok (.invokevirtual 147, 3) := by decide +kernel
theorem dX5_item_76 : decode cX5_item 76 = .ok (.istore 4, 2) := by decide +kernel
theorem dX5_item_78 : decode cX5_item 78 = .ok (.return_, 1) := by decide +kernel
theorem dX5_town_0 : decode cX5_town 0 = .ok (.aload_n 0, 1) := by decide +kernel
theorem dX5_town_1 : decode cX5_town 1 = .ok (.invokevirtual 304, 3) := by decide +kernel
theorem dX5_town_4 : decode cX5_town 4 = .ok (.aload_n 0, 1) := by decide +kernel
theorem dX5_town_5 : decode cX5_town 5 = .ok (.iconst 0, 1) := by decide +kernel
theorem dX5_town_6 : decode cX5_town 6 = .ok (.putfield 235, 3) := by decide +kernel
theorem dX5_town_9 : decode cX5_town 9 = .ok (.aload_n 0, 1) := by decide +kernel
theorem dX5_town_10 : decode cX5_town 10 = .ok (.iconst 0, 1) := by decide +kernel
theorem dX5_town_11 : decode cX5_town 11 = .ok (.putfield 220, 3) := by decide +kernel
theorem dX5_town_14 : decode cX5_town 14 = .ok (.aload_n 0, 1) := by decide +kernel
theorem dX5_town_15 : decode cX5_town 15 = .ok (.invokevirtual 239, 3) := by decide +kernel
theorem dX5_town_18 : decode cX5_town 18 = .ok (.iconst 1, 1) := by decide +kernel
theorem dX5_town_19 : decode cX5_town 19 = .ok (.istore_n 1, 1) := by decide +kernel
theorem dX5_town_20 : decode cX5_town 20 = .ok (.aload_n 0, 1) := by decide +kernel
theorem dX5_town_21 : decode cX5_town 21 = .ok (.invokevirtual 307, 3) := by decide +kernel
theorem dX5_town_24 : decode cX5_town 24 = .ok (.aload_n 0, 1) := by decide +kernel
theorem dX5_town_25 : decode cX5_town 25 = .ok (.getfield 235, 3) := by decide +kernel
theorem dX5_town_28 : decode cX5_town 28 = .ok (.ifCond .ne 31, 3) := by decide +kernel
theorem dX5_town_31 : decode cX5_town 31 = .ok (.aload_n 0, 1) := by decide +kernel
theorem dX5_town_32 : decode cX5_town 32 = .ok (.aload_n 0, 1) := by decide +kernel
theorem dX5_town_33 : decode cX5_town 33 = .ok (.getfield 223, 3) := by decide +kernel
theorem dX5_town_36 : decode cX5_town 36 = .ok (.invokevirtual 226, 3) := by decide +kernel
theorem dX5_town_39 : decode cX5_town 39 = .ok (.bipush 59, 2) := by decide +kernel
theorem dX5_town_41 : decode cX5_town 41 = .ok (.if_icmp .ne 18, 3) := by decide +kernel
theorem dX5_town_44 : decode cX5_town 44 = .ok (.aload_n 0, 1) := by decide +kernel
theorem dX5_town_45 : decode cX5_town 45 = .ok (.iconst 1, 1) := by decide +kernel
theorem dX5_town_46 : decode cX5_town 46 = .ok (.invokevirtual 249, 3) := by decide +kernel
theorem dX5_town_49 : decode cX5_town 49 = .ok (.aload_n 0, 1) := by decide +kernel
theorem dX5_town_50 : decode cX5_town 50 = .ok (.invokevirtual 307, 3) := by decide +kernel
theorem dX5_town_53 : decode cX5_town 53 = .ok (.iinc 1 1, 3) := by decide +kernel
theorem dX5_town_56 : decode cX5_town 56 = .ok (.goto (-32), 3) := by decide +kernel
theorem dX5_town_59 : decode cX5_town 59 = .ok (.aload_n 0, 1) := by decide +kernel
theorem dX5_town_60 : decode cX5_town 60 = .ok (.aload_n 0, 1) := by decide +kernel
theorem dX5_town_61 : decode cX5_town 61 = .ok (.getfield 235, 3) := by decide +kernel
theorem dX5_town_64 : decode cX5_town 64 = .ok (.ifCond .ne 14, 3) := by decide +kernel
theorem dX5_town_67 : decode cX5_town 67 = .ok (.aload_n 0, 1) := by decide +kernel
theorem dX5_town_68 : decode cX5_town 68 = .ok (.getfield 223, 3) := by decide +kernel
theorem dX5_town_71 : decode cX5_town 71 = .ok (.aload_n 0, 1) := by decide +kernel
theorem dX5_town_72 : decode cX5_town 72 = .ok (.getfield 208, 3) := by decide +kernel
theorem dX5_town_75 : decode cX5_town 75 = .ok (.if_icmp .ge 7, 3) := by decide +kernel
theorem dX5_town_78 : decode cX5_town 78 = .ok (.iconst 1, 1) := by decide +kernel
theorem dX5_town_79 : decode cX5_town 79 = .ok (.goto 4, 3) := by decide +kernel
theorem dX5_town_82 : decode cX5_town 82 = .ok (.iconst 0, 1) := by decide +kernel
theorem dX5_town_83 : decode cX5_town 83 = .ok (.putfield 235, 3) := by decide +kernel
theorem dX5_town_86 : decode cX5_town 86 = .ok (.aload_n 0, 1) := by decide +kernel
theorem dX5_town_87 : decode cX5_town 87 = .ok (.getfield 235, 3) := by decide +kernel
theorem dX5_town_90 : decode cX5_town 90 = .ok (.ifCond .eq 7, 3) := by decide +kernel
theorem dX5_town_93 : decode cX5_town 93 = .ok (.aload_n 0, 1) := by decide +kernel
theorem dX5_town_94 : decode cX5_town 94 = .ok (.invokevirtual 310, 3) := by decide +kernel
theorem dX5_town_97 : decode cX5_town 97 = .ok (.aload_n 0, 1) := by decide +kernel
theorem dX5_town_98 : decode cX5_town 98 = .ok (.iconst 0, 1) := by decide +kernel
theorem dX5_town_99 : decode cX5_town 99 = .ok (.putfield 208, 3) := by decide +kernel
theorem dX5_town_102 : decode cX5_town 102 = .ok (.aload_n 0, 1) := by decide +kernel
theorem dX5_town_103 : decode cX5_town 103 = .ok (.getfield 235, 3) := by decide +kernel
theorem dX5_town_106 : decode cX5_town 106 = .ok (.ifCond .eq 12, 3) := by decide +kernel
theorem dX5_town_109 : decode cX5_town 109 = .ok (.iconst (-1), 1) := by decide +kernel
theorem dX5_town_110 : decode cX5_town 110 = .ok (.aload_n 0, 1) := by decide +kernel
theorem dX5_town_111 : decode cX5_town 111 = .ok (.getfield 223, 3) := by decide +kernel
theorem dX5_town_114 : decode cX5_town 114 = .ok (.isub, 1) := by decide +kernel
theorem dX5_town_115 : decode cX5_town 115 = .ok (.goto 4, 3) := by decide +kernel
theorem dX5_town_118 : decode cX5_town 118 = .ok (.iload_n 1, 1) := by decide +kernel
theorem dX5_town_119 : decode cX5_town 119 = .ok (.ireturn, 1) := by decide +kernel
theorem dX5_isOne_0 : decode cX5_isOne 0 = .ok (.iload_n 0, 1) := by decide +kernel
theorem dX5_isOne_1 : decode cX5_isOne 1 = .ok (.i2l, 1) := by decide +kernel
theorem dX5_isOne_2 : decode cX5_isOne 2 = .ok (.lconst 0, 1) := by decide +kernel
theorem dX5_isOne_3 : decode cX5_isOne 3 = .ok (.ldc2_w 61, 3) := by decide +kernel
theorem dX5_isOne_6 : decode cX5_isOne 6 = .ok (.invokestatic 48, 3) := by decide +kernel
theorem dX5_isOne_9 : decode cX5_isOne 9 = .ok (.ireturn, 1) := by decide +kernel
theorem dX5_sheet_0 : decode cX5_sheet 0 = .ok (.iload_n 1, 1) := by decide +kernel
theorem dX5_sheet_1 : decode cX5_sheet 1 = .ok (.invokestatic 313, 3) := by decide +kernel
theorem dX5_sheet_4 : decode cX5_sheet 4 = .ok (.ifCond .eq 25, 3) := by decide +kernel
theorem dX5_sheet_7 : decode cX5_sheet 7 = .ok (.iload_n 2, 1) := by decide +kernel
theorem dX5_sheet_8 : decode cX5_sheet 8 = .ok (.ifCond .eq 28, 3) := by decide +kernel
theorem dX5_sheet_11 : decode cX5_sheet 11 = .ok (.iload_n 2, 1) := by decide +kernel
theorem dX5_sheet_12 : decode cX5_sheet 12 = .ok (.bipush 8, 2) := by decide +kernel
theorem dX5_sheet_14 : decode cX5_sheet 14 = .ok (.if_icmp .eq 22, 3) := by decide +kernel
theorem dX5_sheet_17 : decode cX5_sheet 17 = .ok (.iload_n 2, 1) := by decide +kernel
theorem dX5_sheet_18 : decode cX5_sheet 18 = .ok (.bipush 16, 2) := by decide +kernel
theorem dX5_sheet_20 : decode cX5_sheet 20 = .ok (.if_icmp .eq 16, 3) := by decide +kernel
theorem dX5_sheet_23 : decode cX5_sheet 23 = .ok (.iload_n 2, 1) := by decide +kernel
theorem dX5_sheet_24 : decode cX5_sheet 24 = .ok (.bipush 64, 2) := by decide +kernel
theorem dX5_sheet_26 : decode cX5_sheet 26 = .ok (.if_icmp .eq 10, 3) := by decide +kernel
theorem dX5_sheet_29 : decode cX5_sheet 29 = .ok (.aload_n 0, 1) := by decide +kernel
theorem dX5_sheet_30 : decode cX5_sheet 30 = .ok (.ldc 45, 2) := by decide +kernel
theorem dX5_sheet_32 : decode cX5_sheet 32 = .ok (.invokevirtual 74, 3) := by decide +kernel
theorem dX5_sheet_35 : decode cX5_sheet 35 = .ok (.ireturn, 1) := by decide +kernel
theorem dX5_sheet_36 : decode cX5_sheet 36 = .ok (.iload_n 3, 1) := by decide +kernel
theorem dX5_sheet_37 : decode cX5_sheet 37 = .ok (.ifCond .ge 11, 3) := by decide +kernel
theorem dX5_sheet_40 : decode cX5_sheet 40 = .ok (.aload_n 0, 1) := by decide +kernel
theorem dX5_sheet_41 : decode cX5_sheet 41 = .ok (.ldc_w 316, 3) := by decide +kernel
theorem dX5_sheet_44 : decode cX5_sheet 44 = .ok (.invokevirtual 74, 3) := by decide +kernel
theorem dX5_sheet_47 : decode cX5_sheet 47 = .ok (.ireturn, 1) := by decide +kernel
theorem dX5_sheet_48 : decode cX5_sheet 48 = .ok (.iload_n 3, 1) := by decide +kernel
theorem dX5_sheet_49 : decode cX5_sheet 49 = .ok (.bipush 40, 2) := by decide +kernel
theorem dX5_sheet_51 : decode cX5_sheet 51 = .ok (.if_icmp .le 10, 3) := by decide +kernel
theorem dX5_sheet_54 : decode cX5_sheet 54 = .ok (.aload_n 0, 1) := by decide +kernel
theorem dX5_sheet_55 : decode cX5_sheet 55 = .ok (.ldc 45, 2) := by decide +kernel
theorem dX5_sheet_57 : decode cX5_sheet 57 = .ok (.invokevirtual 74, 3) := by decide +kernel
theorem dX5_sheet_60 : decode cX5_sheet 60 = .ok (.ireturn, 1) := by decide +kernel
theorem dX5_sheet_61 : decode cX5_sheet 61 = .ok (.aload_n 0, 1) := by decide +kernel
theorem dX5_sheet_62 : decode cX5_sheet 62 = .ok (.getfield 28, 3) := by decide +kernel
theorem dX5_sheet_65 : decode cX5_sheet 65 = .ok (.iload_n 1, 1) := by decide +kernel
theorem dX5_sheet_66 : decode cX5_sheet 66 = .ok (.iload_n 2, 1) := by decide +kernel
theorem dX5_sheet_67 : decode cX5_sheet 67 = .ok (.iastore, 1) := by decide +kernel
theorem dX5_sheet_68 : decode cX5_sheet 68 = .ok (.aload_n 0, 1) := by decide +kernel
theorem dX5_sheet_69 : decode cX5_sheet 69 = .ok (.getfield 31, 3) := by decide +kernel
theorem dX5_sheet_72 : decode cX5_sheet 72 = .ok (.iload_n 1, 1) := by decide +kernel
theorem dX5_sheet_73 : decode cX5_sheet 73 = .ok (.iload_n 2, 1) := by decide +kernel
theorem dX5_sheet_74 : decode cX5_sheet 74 = .ok (.ifCond .ne 7, 3) := by decide +kernel
theorem dX5_sheet_77 : decode cX5_sheet 77 = .ok (.iconst 0, 1) := by decide +kernel
theorem dX5_sheet_78 : decode cX5_sheet 78 = .ok (.goto 4, 3) := by decide +kernel
theorem dX5_sheet_81 : decode cX5_sheet 81 = .ok (.iload_n 3, 1) := by decide +kernel
theorem dX5_sheet_82 : decode cX5_sheet 82 = .ok (.iastore, 1) := by decide +kernel
theorem dX5_sheet_83 : decode cX5_sheet 83 = .ok (.iconst 0, 1) := by decide +kernel
theorem dX5_sheet_84 : decode cX5_sheet 84 = .ok (.istore 4, 2) := by decide +kernel
theorem dX5_sheet_86 : decode cX5_sheet 86 = .ok (.iload 4, 2) := by decide +kernel
theorem dX5_sheet_88 : decode cX5_sheet 88 = .ok (.bipush 40, 2) := by decide +kernel
theorem dX5_sheet_90 : decode cX5_sheet 90 = .ok (.if_icmp .ge 22, 3) := by decide +kernel
theorem dX5_sheet_93 : decode cX5_sheet 93 = .ok (.aload_n 0, 1) := by decide +kernel
theorem dX5_sheet_94 : decode cX5_sheet 94 = .ok (.getfield 34, 3) := by decide +kernel
theorem dX5_sheet_97 : decode cX5_sheet 97 = .ok (.bipush 40, 2) := by decide +kernel
theorem dX5_sheet_99 : decode cX5_sheet 99 = .ok (.iload_n 1, 1) := by decide +kernel
theorem dX5_sheet_100 : decode cX5_sheet 100 = .ok (.imul, 1) := by decide +kernel
theorem dX5_sheet_101 : decode cX5_sheet 101 = .ok (.iload 4, 2) := by decide +kernel
theorem dX5_sheet_103 : decode cX5_sheet 103 = .ok (.iadd, 1) := by decide +kernel
theorem dX5_sheet_104 : decode cX5_sheet 104 = .ok (.lconst 0, 1) := by decide +kernel
theorem dX5_sheet_105 : decode cX5_sheet 105 = .ok (.lastore, 1) := by decide +kernel
theorem dX5_sheet_106 : decode cX5_sheet 106 = .ok (.iinc 4 1, 3) := by decide +kernel
theorem dX5_sheet_109 : decode cX5_sheet 109 = .ok (.goto (-23), 3) := by decide +kernel
theorem dX5_sheet_112 : decode cX5_sheet 112 = .ok (.aload_n 0, 1) := by decide +kernel
theorem dX5_sheet_113 : decode cX5_sheet 113 = .ok (.getfield 31, 3) := by decide +kernel
theorem dX5_sheet_116 : decode cX5_sheet 116 = .ok (.iload_n 1, 1) := by decide +kernel
theorem dX5_sheet_117 : decode cX5_sheet 117 = .ok (.iaload, 1) := by decide +kernel
theorem dX5_sheet_118 : decode cX5_sheet 118 = .ok (.ireturn, 1) := by decide +kernel
theorem dX5_narrowed_0 : decode cX5_narrowed 0 = .ok (.iload_n 0, 1) := by decide +kernel
theorem dX5_narrowed_1 : decode cX5_narrowed 1 = .ok (.bipush 8, 2) := by decide +kernel
theorem dX5_narrowed_3 : decode cX5_narrowed 3 = .ok (.if_icmp .ne 10, 3) := by decide +kernel
theorem dX5_narrowed_6 : decode cX5_narrowed 6 = .ok (.lload_n 1, 1) := by decide +kernel
theorem dX5_narrowed_7 : decode cX5_narrowed 7 = .ok (.l2i, 1) := by decide +kernel
theorem dX5_narrowed_8 : decode cX5_narrowed 8 = .ok (.i2b, 1) := by decide +kernel
theorem dX5_narrowed_9 : decode cX5_narrowed 9 = .ok (.i2l, 1) := by decide +kernel
theorem dX5_narrowed_10 : decode cX5_narrowed 10 = .ok (.goto 17, 3) := by decide +kernel
theorem dX5_narrowed_13 : decode cX5_narrowed 13 = .ok (.iload_n 0, 1) := by decide +kernel
theorem dX5_narrowed_14 : decode cX5_narrowed 14 = .ok (.bipush 16, 2) := by decide +kernel
theorem dX5_narrowed_16 : decode cX5_narrowed 16 = .ok (.if_icmp .ne 10, 3) := by decide +kernel
theorem dX5_narrowed_19 : decode cX5_narrowed 19 = .ok (.lload_n 1, 1) := by decide +kernel
theorem dX5_narrowed_20 : decode cX5_narrowed 20 = .ok (.l2i, 1) := by decide +kernel
theorem dX5_narrowed_21 : decode cX5_narrowed 21 = .ok (.i2s, 1) := by decide +kernel
theorem dX5_narrowed_22 : decode cX5_narrowed 22 = .ok (.i2l, 1) := by decide +kernel
theorem dX5_narrowed_23 : decode cX5_narrowed 23 = .ok (.goto 4, 3) := by decide +kernel
theorem dX5_narrowed_26 : decode cX5_narrowed 26 = .ok (.lload_n 1, 1) := by decide +kernel
theorem dX5_narrowed_27 : decode cX5_narrowed 27 = .ok (.lreturn, 1) := by decide +kernel
theorem dX5_wrongSheet_0 : decode cX5_wrongSheet 0 = .ok (.iload_n 1, 1) := by decide +kernel
theorem dX5_wrongSheet_1 : decode cX5_wrongSheet 1 = .ok (.invokestatic 313, 3) := by decide +kernel
theorem dX5_wrongSheet_4 : decode cX5_wrongSheet 4 = .ok (.ifCond .ne 8, 3) := by decide +kernel
theorem dX5_wrongSheet_7 : decode cX5_wrongSheet 7 = .ok (.ldc 45, 2) := by decide +kernel
theorem dX5_wrongSheet_9 : decode cX5_wrongSheet 9 = .ok (.goto 19, 3) := by decide +kernel
theorem dX5_wrongSheet_12 : decode cX5_wrongSheet 12 = .ok (.aload_n 0, 1) := by decide +kernel
theorem dX5_wrongSheet_13 : decode cX5_wrongSheet 13 = .ok (.getfield 28, 3) := by decide +kernel
theorem dX5_wrongSheet_16 : decode cX5_wrongSheet 16 = .ok (.iload_n 1, 1) := by decide +kernel
theorem dX5_wrongSheet_17 : decode cX5_wrongSheet 17 = .ok (.iaload, 1) := by decide +kernel
theorem dX5_wrongSheet_18 : decode cX5_wrongSheet 18 = .ok (.ifCond .ne 9, 3) := by decide +kernel
theorem dX5_wrongSheet_21 : decode cX5_wrongSheet 21 = .ok (.ldc_w 317, 3) := by decide +kernel
theorem dX5_wrongSheet_24 : decode cX5_wrongSheet 24 = .ok (.goto 4, 3) := by decide +kernel
theorem dX5_wrongSheet_27 : decode cX5_wrongSheet 27 = .ok (.iconst 0, 1) := by decide +kernel
theorem dX5_wrongSheet_28 : decode cX5_wrongSheet 28 = .ok (.ireturn, 1) := by decide +kernel
theorem dX5_write_0 : decode cX5_write 0 = .ok (.aload_n 0, 1) := by decide +kernel
theorem dX5_write_1 : decode cX5_write 1 = .ok (.iload_n 1, 1) := by decide +kernel
theorem dX5_write_2 : decode cX5_write 2 = .ok (.invokevirtual 318, 3) := by decide +kernel
theorem dX5_write_5 : decode cX5_write 5 = .ok (.istore 5, 2) := by decide +kernel
theorem dX5_write_7 : decode cX5_write 7 = .ok (.iload 5, 2) := by decide +kernel
theorem dX5_write_9 : decode cX5_write 9 = .ok (.ifCond .eq 11, 3) := by decide +kernel
theorem dX5_write_12 : decode cX5_write 12 = .ok (.aload_n 0, 1) := by decide +kernel
theorem dX5_write_13 : decode cX5_write 13 = .ok (.iload 5, 2) := by decide +kernel
theorem dX5_write_15 : decode cX5_write 15 = .ok (.invokevirtual 74, 3) := by decide +kernel
theorem dX5_write_18 : decode cX5_write 18 = .ok (.i2l, 1) := by decide +kernel
theorem dX5_write_19 : decode cX5_write 19 = .ok (.lreturn, 1) := by decide +kernel
theorem dX5_write_20 : decode cX5_write 20 = .ok (.iload_n 2, 1) := by decide +kernel
theorem dX5_write_21 : decode cX5_write 21 = .ok (.i2l, 1) := by decide +kernel
theorem dX5_write_22 : decode cX5_write 22 = .ok (.lconst 0, 1) := by decide +kernel
theorem dX5_write_23 : decode cX5_write 23 = .ok (.aload_n 0, 1) := by decide +kernel
theorem dX5_write_24 : decode cX5_write 24 = .ok (.getfield 31, 3) := by decide +kernel
theorem dX5_write_27 : decode cX5_write 27 = .ok (.iload_n 1, 1) := by decide +kernel
theorem dX5_write_28 : decode cX5_write 28 = .ok (.iaload, 1) := by decide +kernel
theorem dX5_write_29 : decode cX5_write 29 = .ok (.iconst 1, 1) := by decide +kernel
theorem dX5_write_30 : decode cX5_write 30 = .ok (.isub, 1) := by decide +kernel
theorem dX5_write_31 : decode cX5_write 31 = .ok (.i2l, 1) := by decide +kernel
theorem dX5_write_32 : decode cX5_write 32 = .ok (.invokestatic 48, 3) := by decide +kernel
theorem dX5_write_35 : decode cX5_write 35 = .ok (.ifCond .ne 11, 3) := by decide +kernel
theorem dX5_write_38 : decode cX5_write 38 = .ok (.aload_n 0, 1) := by decide +kernel
theorem dX5_write_39 : decode cX5_write 39 = .ok (.ldc 45, 2) := by decide +kernel
theorem dX5_write_41 : decode cX5_write 41 = .ok (.invokevirtual 74, 3) := by decide +kernel
theorem dX5_write_44 : decode cX5_write 44 = .ok (.i2l, 1) := by decide +kernel
theorem dX5_write_45 : decode cX5_write 45 = .ok (.lreturn, 1) := by decide +kernel
theorem dX5_write_46 : decode cX5_write 46 = .ok (.aload_n 0, 1) := by decide +kernel
theorem dX5_write_47 : decode cX5_write 47 = .ok (.getfield 34, 3) := by decide +kernel
theorem dX5_write_50 : decode cX5_write 50 = .ok (.bipush 40, 2) := by decide +kernel
theorem dX5_write_52 : decode cX5_write 52 = .ok (.iload_n 1, 1) := by decide +kernel
theorem dX5_write_53 : decode cX5_write 53 = .ok (.imul, 1) := by decide +kernel
theorem dX5_write_54 : decode cX5_write 54 = .ok (.iload_n 2, 1) := by decide +kernel
theorem dX5_write_55 : decode cX5_write 55 = .ok (.iadd, 1) := by decide +kernel
theorem dX5_write_56 : decode cX5_write 56 = .ok (.laload, 1) := by decide +kernel
theorem dX5_write_57 : decode cX5_write 57 = .ok (.lstore 6, 2) := by decide +kernel
theorem dX5_write_59 : decode cX5_write 59 = .ok (.aload_n 0, 1) := by decide +kernel
theorem dX5_write_60 : decode cX5_write 60 = .ok (.getfield 34, 3) := by decide +kernel
theorem dX5_write_63 : decode cX5_write 63 = .ok (.bipush 40, 2) := by decide +kernel
theorem dX5_write_65 : decode cX5_write 65 = .ok (.iload_n 1, 1) := by decide +kernel
theorem dX5_write_66 : decode cX5_write 66 = .ok (.imul, 1) := by decide +kernel
theorem dX5_write_67 : decode cX5_write 67 = .ok (.iload_n 2, 1) := by decide +kernel
theorem dX5_write_68 : decode cX5_write 68 = .ok (.iadd, 1) := by decide +kernel
theorem dX5_write_69 : decode cX5_write 69 = .ok (.aload_n 0, 1) := by decide +kernel
theorem dX5_write_70 : decode cX5_write 70 = .ok (.getfield 28, 3) := by decide +kernel
theorem dX5_write_73 : decode cX5_write 73 = .ok (.iload_n 1, 1) := by decide +kernel
theorem dX5_write_74 : decode cX5_write 74 = .ok (.iaload, 1) := by decide +kernel
theorem dX5_write_75 : decode cX5_write 75 = .ok (.lload_n 3, 1) := by decide +kernel
theorem dX5_write_76 : decode cX5_write 76 = .ok (.invokestatic 321, 3) := by decide +kernel
theorem dX5_write_79 : decode cX5_write 79 = .ok (.lastore, 1) := by decide +kernel
theorem dX5_write_80 : decode cX5_write 80 = .ok (.lload 6, 2) := by decide +kernel
theorem dX5_write_82 : decode cX5_write 82 = .ok (.lreturn, 1) := by decide +kernel
theorem dX5_copy_0 : decode cX5_copy 0 = .ok (.iload_n 1, 1) := by decide +kernel
theorem dX5_copy_1 : decode cX5_copy 1 = .ok (.invokestatic 313, 3) := by decide +kernel
theorem dX5_copy_4 : decode cX5_copy 4 = .ok (.ifCond .eq 10, 3) := by decide +kernel
theorem dX5_copy_7 : decode cX5_copy 7 = .ok (.iload_n 3, 1) := by decide +kernel
theorem dX5_copy_8 : decode cX5_copy 8 = .ok (.invokestatic 313, 3) := by decide +kernel
theorem dX5_copy_11 : decode cX5_copy 11 = .ok (.ifCond .ne 10, 3) := by decide +kernel
theorem dX5_copy_14 : decode cX5_copy 14 = .ok (.aload_n 0, 1) := by decide +kernel
theorem dX5_copy_15 : decode cX5_copy 15 = .ok (.ldc 45, 2) := by decide +kernel
theorem dX5_copy_17 : decode cX5_copy 17 = .ok (.invokevirtual 74, 3) := by decide +kernel
theorem dX5_copy_20 : decode cX5_copy 20 = .ok (.ireturn, 1) := by decide +kernel
theorem dX5_copy_21 : decode cX5_copy 21 = .ok (.aload_n 0, 1) := by decide +kernel
theorem dX5_copy_22 : decode cX5_copy 22 = .ok (.getfield 28, 3) := by decide +kernel
theorem dX5_copy_25 : decode cX5_copy 25 = .ok (.iload_n 1, 1) := by decide +kernel
theorem dX5_copy_26 : decode cX5_copy 26 = .ok (.iaload, 1) := by decide +kernel
theorem dX5_copy_27 : decode cX5_copy 27 = .ok (.ifCond .eq 12, 3) := by decide +kernel
theorem dX5_copy_30 : decode cX5_copy 30 = .ok (.aload_n 0, 1) := by decide +kernel
theorem dX5_copy_31 : decode cX5_copy 31 = .ok (.getfield 28, 3) := by decide +kernel
theorem dX5_copy_34 : decode cX5_copy 34 = .ok (.iload_n 3, 1) := by decide +kernel
theorem dX5_copy_35 : decode cX5_copy 35 = .ok (.iaload, 1) := by decide +kernel
theorem dX5_copy_36 : decode cX5_copy 36 = .ok (.ifCond .ne 11, 3) := by decide +kernel
theorem dX5_copy_39 : decode cX5_copy 39 = .ok (.aload_n 0, 1) := by decide +kernel
theorem dX5_copy_40 : decode cX5_copy 40 = .ok (.ldc_w 317, 3) := by decide +kernel
theorem dX5_copy_43 : decode cX5_copy 43 = .ok (.invokevirtual 74, 3) := by decide +kernel
theorem dX5_copy_46 : decode cX5_copy 46 = .ok (.ireturn, 1) := by decide +kernel
theorem dX5_copy_47 : decode cX5_copy 47 = .ok (.aload_n 0, 1) := by decide +kernel
theorem dX5_copy_48 : decode cX5_copy 48 = .ok (.getfield 28, 3) := by decide +kernel
theorem dX5_copy_51 : decode cX5_copy 51 = .ok (.iload_n 1, 1) := by decide +kernel
theorem dX5_copy_52 : decode cX5_copy 52 = .ok (.iaload, 1) := by decide +kernel
theorem dX5_copy_53 : decode cX5_copy 53 = .ok (.aload_n 0, 1) := by decide +kernel
theorem dX5_copy_54 : decode cX5_copy 54 = .ok (.getfield 28, 3) := by decide +kernel
theorem dX5_copy_57 : decode cX5_copy 57 = .ok (.iload_n 3, 1) := by decide +kernel
theorem dX5_copy_58 : decode cX5_copy 58 = .ok (.iaload, 1) := by decide +kernel
theorem dX5_copy_59 : decode cX5_copy 59 = .ok (.if_icmp .eq 10, 3) := by decide +kernel
theorem dX5_copy_62 : decode cX5_copy 62 = .ok (.aload_n 0, 1) := by decide +kernel
theorem dX5_copy_63 : decode cX5_copy 63 = .ok (.ldc 121, 2) := by decide +kernel
theorem dX5_copy_65 : decode cX5_copy 65 = .ok (.invokevirtual 74, 3) := by decide +kernel
theorem dX5_copy_68 : decode cX5_copy 68 = .ok (.ireturn, 1) := by decide +kernel
theorem dX5_copy_69 : decode cX5_copy 69 = .ok (.iload_n 2, 1) := by decide +kernel
theorem dX5_copy_70 : decode cX5_copy 70 = .ok (.ifCond .lt 40, 3) := by decide +kernel
theorem dX5_copy_73 : decode cX5_copy 73 = .ok (.iload 4, 2) := by decide +kernel
theorem dX5_copy_75 : decode cX5_copy 75 = .ok (.ifCond .lt 35, 3) := by decide +kernel
theorem dX5_copy_78 : decode cX5_copy 78 = .ok (.iload 5, 2) := by decide +kernel
theorem dX5_copy_80 : decode cX5_copy 80 = .ok (.ifCond .lt 30, 3) := by decide +kernel
theorem dX5_copy_83 : decode cX5_copy 83 = .ok (.iload 5, 2) := by decide +kernel
theorem dX5_copy_85 : decode cX5_copy 85 = .ok (.aload_n 0, 1) := by decide +kernel
theorem dX5_copy_86 : decode cX5_copy 86 = .ok (.getfield 31, 3) := by decide +kernel
theorem dX5_copy_89 : decode cX5_copy 89 = .ok (.iload_n 1, 1) := by decide +kernel
theorem dX5_copy_90 : decode cX5_copy 90 = .ok (.iaload, 1) := by decide +kernel
theorem dX5_copy_91 : decode cX5_copy 91 = .ok (.iload_n 2, 1) := by decide +kernel
theorem dX5_copy_92 : decode cX5_copy 92 = .ok (.isub, 1) := by decide +kernel
theorem dX5_copy_93 : decode cX5_copy 93 = .ok (.if_icmp .gt 17, 3) := by decide +kernel
theorem dX5_copy_96 : decode cX5_copy 96 = .ok (.iload 5, 2) := by decide +kernel
theorem dX5_copy_98 : decode cX5_copy 98 = .ok (.aload_n 0, 1) := by decide +kernel
theorem dX5_copy_99 : decode cX5_copy 99 = .ok (.getfield 31, 3) := by decide +kernel
theorem dX5_copy_102 : decode cX5_copy 102 = .ok (.iload_n 3, 1) := by decide +kernel
theorem dX5_copy_103 : decode cX5_copy 103 = .ok (.iaload, 1) := by decide +kernel
theorem dX5_copy_104 : decode cX5_copy 104 = .ok (.iload 4, 2) := by decide +kernel
theorem dX5_copy_106 : decode cX5_copy 106 = .ok (.isub, 1) := by decide +kernel
theorem dX5_copy_107 : decode cX5_copy 107 = .ok (.if_icmp .le 10, 3) := by decide +kernel
theorem dX5_copy_110 : decode cX5_copy 110 = .ok (.aload_n 0, 1) := by decide +kernel
theorem dX5_copy_111 : decode cX5_copy 111 = .ok (.ldc 45, 2) := by decide +kernel
theorem dX5_copy_113 : decode cX5_copy 113 = .ok (.invokevirtual 74, 3) := by decide +kernel
theorem dX5_copy_116 : decode cX5_copy 116 = .ok (.ireturn, 1) := by decide +kernel
theorem dX5_copy_117 : decode cX5_copy 117 = .ok (.iconst 0, 1) := by decide +kernel
theorem dX5_copy_118 : decode cX5_copy 118 = .ok (.istore 6, 2) := by decide +kernel
theorem dX5_copy_120 : decode cX5_copy 120 = .ok (.iload 6, 2) := by decide +kernel
theorem dX5_copy_122 : decode cX5_copy 122 = .ok (.iload 5, 2) := by decide +kernel
theorem dX5_copy_124 : decode cX5_copy 124 = .ok (.if_icmp .ge 30, 3) := by decide +kernel
theorem dX5_copy_127 : decode cX5_copy 127 = .ok (.aload_n 0, 1) := by decide +kernel
theorem dX5_copy_128 : decode cX5_copy 128 = .ok (.getfield 38, 3) := by decide +kernel
theorem dX5_copy_131 : decode cX5_copy 131 = .ok (.iload 6, 2) := by decide +kernel
theorem dX5_copy_133 : decode cX5_copy 133 = .ok (.aload_n 0, 1) := by decide +kernel
theorem dX5_copy_134 : decode cX5_copy 134 = .ok (.getfield 34, 3) := by decide +kernel
theorem dX5_copy_137 : decode cX5_copy 137 = .ok (.bipush 40, 2) := by decide +kernel
theorem dX5_copy_139 : decode cX5_copy 139 = .ok (.iload_n 1, 1) := by decide +kernel
theorem dX5_copy_140 : decode cX5_copy 140 = .ok (.imul, 1) := by decide +kernel
theorem dX5_copy_141 : decode cX5_copy 141 = .ok (.iload_n 2, 1) := by decide +kernel
theorem dX5_copy_142 : decode cX5_copy 142 = .ok (.iadd, 1) := by decide +kernel
theorem dX5_copy_143 : decode cX5_copy 143 = .ok (.iload 6, 2) := by decide +kernel
theorem dX5_copy_145 : decode cX5_copy 145 = .ok (.iadd, 1) := by decide +kernel
theorem dX5_copy_146 : decode cX5_copy 146 = .ok (.laload, 1) := by decide +kernel
theorem dX5_copy_147 : decode cX5_copy 147 = .ok (.lastore, 1) := by decide +kernel
theorem dX5_copy_148 : decode cX5_copy 148 = .ok (.iinc 6 1, 3) := by decide +kernel
theorem dX5_copy_151 : decode cX5_copy 151 = .ok (.goto (-31), 3) := by decide +kernel
theorem dX5_copy_154 : decode cX5_copy 154 = .ok (.iconst 0, 1) := by decide +kernel
theorem dX5_copy_155 : decode cX5_copy 155 = .ok (.istore 6, 2) := by decide +kernel
theorem dX5_copy_157 : decode cX5_copy 157 = .ok (.iload 6, 2) := by decide +kernel
theorem dX5_copy_159 : decode cX5_copy 159 = .ok (.iload 5, 2) := by decide +kernel
theorem dX5_copy_161 : decode cX5_copy 161 = .ok (.if_icmp .ge 31, 3) := by decide +kernel
theorem dX5_copy_164 : decode cX5_copy 164 = .ok (.aload_n 0, 1) := by decide +kernel
theorem dX5_copy_165 : decode cX5_copy 165 = .ok (.getfield 34, 3) := by decide +kernel
theorem dX5_copy_168 : decode cX5_copy 168 = .ok (.bipush 40, 2) := by decide +kernel
theorem dX5_copy_170 : decode cX5_copy 170 = .ok (.iload_n 3, 1) := by decide +kernel
theorem dX5_copy_171 : decode cX5_copy 171 = .ok (.imul, 1) := by decide +kernel
theorem dX5_copy_172 : decode cX5_copy 172 = .ok (.iload 4, 2) := by decide +kernel
theorem dX5_copy_174 : decode cX5_copy 174 = .ok (.iadd, 1) := by decide +kernel
theorem dX5_copy_175 : decode cX5_copy 175 = .ok (.iload 6, 2) := by decide +kernel
theorem dX5_copy_177 : decode cX5_copy 177 = .ok (.iadd, 1) := by decide +kernel
theorem dX5_copy_178 : decode cX5_copy 178 = .ok (.aload_n 0, 1) := by decide +kernel
theorem dX5_copy_179 : decode cX5_copy 179 = .ok (.getfield 38, 3) := by decide +kernel
theorem dX5_copy_182 : decode cX5_copy 182 = .ok (.iload 6, 2) := by decide +kernel
theorem dX5_copy_184 : decode cX5_copy 184 = .ok (.laload, 1) := by decide +kernel
theorem dX5_copy_185 : decode cX5_copy 185 = .ok (.lastore, 1) := by decide +kernel
theorem dX5_copy_186 : decode cX5_copy 186 = .ok (.iinc 6 1, 3) := by decide +kernel
theorem dX5_copy_189 : decode cX5_copy 189 = .ok (.goto (-32), 3) := by decide +kernel
theorem dX5_copy_192 : decode cX5_copy 192 = .ok (.iload 5, 2) := by decide +kernel
theorem dX5_copy_194 : decode cX5_copy 194 = .ok (.ireturn, 1) := by decide +kernel
theorem dX5_lays_0 : decode cX5_lays 0 = .ok (.aload_n 0, 1) := by decide +kernel
theorem dX5_lays_1 : decode cX5_lays 1 = .ok (.iload_n 1, 1) := by decide +kernel
theorem dX5_lays_2 : decode cX5_lays 2 = .ok (.invokevirtual 318, 3) := by decide +kernel
theorem dX5_lays_5 : decode cX5_lays 5 = .ok (.istore_n 2, 1) := by decide +kernel
theorem dX5_lays_6 : decode cX5_lays 6 = .ok (.iload_n 2, 1) := by decide +kernel
theorem dX5_lays_7 : decode cX5_lays 7 = .ok (.ifCond .eq 9, 3) := by decide +kernel
theorem dX5_lays_10 : decode cX5_lays 10 = .ok (.aload_n 0, 1) := by decide +kernel
theorem dX5_lays_11 : decode cX5_lays 11 = .ok (.iload_n 2, 1) := by decide +kernel
theorem dX5_lays_12 : decode cX5_lays 12 = .ok (.invokevirtual 74, 3) := by decide +kernel
theorem dX5_lays_15 : decode cX5_lays 15 = .ok (.ireturn, 1) := by decide +kernel
theorem dX5_lays_16 : decode cX5_lays 16 = .ok (.iconst 0, 1) := by decide +kernel
theorem dX5_lays_17 : decode cX5_lays 17 = .ok (.istore_n 3, 1) := by decide +kernel
theorem dX5_lays_18 : decode cX5_lays 18 = .ok (.iconst 0, 1) := by decide +kernel
theorem dX5_lays_19 : decode cX5_lays 19 = .ok (.istore 4, 2) := by decide +kernel
theorem dX5_lays_21 : decode cX5_lays 21 = .ok (.iload 4, 2) := by decide +kernel
theorem dX5_lays_23 : decode cX5_lays 23 = .ok (.aload_n 0, 1) := by decide +kernel
theorem dX5_lays_24 : decode cX5_lays 24 = .ok (.getfield 31, 3) := by decide +kernel
theorem dX5_lays_27 : decode cX5_lays 27 = .ok (.iload_n 1, 1) := by decide +kernel
theorem dX5_lays_28 : decode cX5_lays 28 = .ok (.iaload, 1) := by decide +kernel
theorem dX5_lays_29 : decode cX5_lays 29 = .ok (.if_icmp .ge 89, 3) := by decide +kernel
theorem dX5_lays_32 : decode cX5_lays 32 = .ok (.iload 4, 2) := by decide +kernel
theorem dX5_lays_34 : decode cX5_lays 34 = .ok (.bipush 8, 2) := by decide +kernel
theorem dX5_lays_36 : decode cX5_lays 36 = .ok (.if_icmp .ge 82, 3) := by decide +kernel
theorem dX5_lays_39 : decode cX5_lays 39 = .ok (.aload_n 0, 1) := by decide +kernel
theorem dX5_lays_40 : decode cX5_lays 40 = .ok (.getfield 34, 3) := by decide +kernel
theorem dX5_lays_43 : decode cX5_lays 43 = .ok (.bipush 40, 2) := by decide +kernel
theorem dX5_lays_45 : decode cX5_lays 45 = .ok (.iload_n 1, 1) := by decide +kernel
theorem dX5_lays_46 : decode cX5_lays 46 = .ok (.imul, 1) := by decide +kernel
theorem dX5_lays_47 : decode cX5_lays 47 = .ok (.iload 4, 2) := by decide +kernel
theorem dX5_lays_49 : decode cX5_lays 49 = .ok (.iadd, 1) := by decide +kernel
theorem dX5_lays_50 : decode cX5_lays 50 = .ok (.laload, 1) := by decide +kernel
theorem dX5_lays_51 : decode cX5_lays 51 = .ok (.lconst 0, 1) := by decide +kernel
theorem dX5_lays_52 : decode cX5_lays 52 = .ok (.ldc2_w 65, 3) := by decide +kernel
theorem dX5_lays_55 : decode cX5_lays 55 = .ok (.invokestatic 48, 3) := by decide +kernel
theorem dX5_lays_58 : decode cX5_lays 58 = .ok (.istore 5, 2) := by decide +kernel
theorem dX5_lays_60 : decode cX5_lays 60 = .ok (.aload_n 0, 1) := by decide +kernel
theorem dX5_lays_61 : decode cX5_lays 61 = .ok (.getfield 7, 3) := by decide +kernel
theorem dX5_lays_64 : decode cX5_lays 64 = .ok (.iload 4, 2) := by decide +kernel
theorem dX5_lays_66 : decode cX5_lays 66 = .ok (.iconst 2, 1) := by decide +kernel
theorem dX5_lays_67 : decode cX5_lays 67 = .ok (.invokestatic 41, 3) := by decide +kernel
theorem dX5_lays_70 : decode cX5_lays 70 = .ok (.iload 5, 2) := by decide +kernel
theorem dX5_lays_72 : decode cX5_lays 72 = .ok (.ifCond .eq 19, 3) := by decide +kernel
theorem dX5_lays_75 : decode cX5_lays 75 = .ok (.aload_n 0, 1) := by decide +kernel
theorem dX5_lays_76 : decode cX5_lays 76 = .ok (.getfield 34, 3) := by decide +kernel
theorem dX5_lays_79 : decode cX5_lays 79 = .ok (.bipush 40, 2) := by decide +kernel
theorem dX5_lays_81 : decode cX5_lays 81 = .ok (.iload_n 1, 1) := by decide +kernel
theorem dX5_lays_82 : decode cX5_lays 82 = .ok (.imul, 1) := by decide +kernel
theorem dX5_lays_83 : decode cX5_lays 83 = .ok (.iload 4, 2) := by decide +kernel
theorem dX5_lays_85 : decode cX5_lays 85 = .ok (.iadd, 1) := by decide +kernel
theorem dX5_lays_86 : decode cX5_lays 86 = .ok (.laload, 1) := by decide +kernel
theorem dX5_lays_87 : decode cX5_lays 87 = .ok (.l2i, 1) := by decide +kernel
theorem dX5_lays_88 : decode cX5_lays 88 = .ok (.goto 10, 3) := by decide +kernel
theorem dX5_lays_91 : decode cX5_lays 91 = .ok (.aload_n 0, 1) := by decide +kernel
theorem dX5_lays_92 : decode cX5_lays 92 = .ok (.iload 4, 2) := by decide +kernel
theorem dX5_lays_94 : decode cX5_lays 94 = .ok (.iconst 2, 1) := by decide +kernel
theorem dX5_lays_95 : decode cX5_lays 95 = .ok (.invokevirtual 84, 3) := by decide +kernel
theorem dX5_lays_98 : decode cX5_lays 98 = .ok (.iastore, 1) := by decide +kernel
theorem dX5_lays_99 : decode cX5_lays 99 = .ok (.iload_n 3, 1) := by decide +kernel
theorem dX5_lays_100 : decode cX5_lays 100 = .ok (.iload 5, 2) := by decide +kernel
theorem dX5_lays_102 : decode cX5_lays 102 = .ok (.ifCond .eq 7, 3) := by decide +kernel
theorem dX5_lays_105 : decode cX5_lays 105 = .ok (.iconst 1, 1) := by decide +kernel
theorem dX5_lays_106 : decode cX5_lays 106 = .ok (.goto 4, 3) := by decide +kernel
theorem dX5_lays_109 : decode cX5_lays 109 = .ok (.iconst 0, 1) := by decide +kernel
theorem dX5_lays_110 : decode cX5_lays 110 = .ok (.iadd, 1) := by decide +kernel
theorem dX5_lays_111 : decode cX5_lays 111 = .ok (.istore_n 3, 1) := by decide +kernel
theorem dX5_lays_112 : decode cX5_lays 112 = .ok (.iinc 4 1, 3) := by decide +kernel
theorem dX5_lays_115 : decode cX5_lays 115 = .ok (.goto (-94), 3) := by decide +kernel
theorem dX5_lays_118 : decode cX5_lays 118 = .ok (.iload_n 3, 1) := by decide +kernel
theorem dX5_lays_119 : decode cX5_lays 119 = .ok (.ireturn, 1) := by decide +kernel
theorem dX5_wrongBook_0 : decode cX5_wrongBook 0 = .ok (.aload_n 0, 1) := by decide +kernel
theorem dX5_wrongBook_1 : decode cX5_wrongBook 1 = .ok (.iload_n 1, 1) := by decide +kernel
theorem dX5_wrongBook_2 : decode cX5_wrongBook 2 = .ok (.invokevirtual 318, 3) := by decide +kernel
theorem dX5_wrongBook_5 : decode cX5_wrongBook 5 = .ok (.istore_n 3, 1) := by decide +kernel
theorem dX5_wrongBook_6 : decode cX5_wrongBook 6 = .ok (.iload_n 3, 1) := by decide +kernel
theorem dX5_wrongBook_7 : decode cX5_wrongBook 7 = .ok (.ifCond .eq 7, 3) := by decide +kernel
theorem dX5_wrongBook_10 : decode cX5_wrongBook 10 = .ok (.iload_n 3, 1) := by decide +kernel
theorem dX5_wrongBook_11 : decode cX5_wrongBook 11 = .ok (.goto 16, 3) := by decide +kernel
theorem dX5_wrongBook_14 : decode cX5_wrongBook 14 = .ok (.iload_n 2, 1) := by decide +kernel
theorem dX5_wrongBook_15 : decode cX5_wrongBook 15 = .ok (.invokestatic 67, 3) := by decide +kernel
theorem dX5_wrongBook_18 : decode cX5_wrongBook 18 = .ok (.ifCond .eq 7, 3) := by decide +kernel
theorem dX5_wrongBook_21 : decode cX5_wrongBook 21 = .ok (.iconst 0, 1) := by decide +kernel
theorem dX5_wrongBook_22 : decode cX5_wrongBook 22 = .ok (.goto 5, 3) := by decide +kernel
theorem dX5_wrongBook_25 : decode cX5_wrongBook 25 = .ok (.ldc 45, 2) := by decide +kernel
theorem dX5_wrongBook_27 : decode cX5_wrongBook 27 = .ok (.ireturn, 1) := by decide +kernel
theorem dX5_book_0 : decode cX5_book 0 = .ok (.aload_n 0, 1) := by decide +kernel
theorem dX5_book_1 : decode cX5_book 1 = .ok (.iload_n 1, 1) := by decide +kernel
theorem dX5_book_2 : decode cX5_book 2 = .ok (.iload_n 2, 1) := by decide +kernel
theorem dX5_book_3 : decode cX5_book 3 = .ok (.invokevirtual 325, 3) := by decide +kernel
theorem dX5_book_6 : decode cX5_book 6 = .ok (.istore_n 3, 1) := by decide +kernel
theorem dX5_book_7 : decode cX5_book 7 = .ok (.iload_n 3, 1) := by decide +kernel
theorem dX5_book_8 : decode cX5_book 8 = .ok (.ifCond .eq 9, 3) := by decide +kernel
theorem dX5_book_11 : decode cX5_book 11 = .ok (.aload_n 0, 1) := by decide +kernel
theorem dX5_book_12 : decode cX5_book 12 = .ok (.iload_n 3, 1) := by decide +kernel
theorem dX5_book_13 : decode cX5_book 13 = .ok (.invokevirtual 74, 3) := by decide +kernel
theorem dX5_book_16 : decode cX5_book 16 = .ok (.ireturn, 1) := by decide +kernel
theorem dX5_book_17 : decode cX5_book 17 = .ok (.aload_n 0, 1) := by decide +kernel
theorem dX5_book_18 : decode cX5_book 18 = .ok (.invokevirtual 184, 3) := by decide +kernel
theorem dX5_book_21 : decode cX5_book 21 = .ok (.iconst 0, 1) := by decide +kernel
theorem dX5_book_22 : decode cX5_book 22 = .ok (.istore 4, 2) := by decide +kernel
theorem dX5_book_24 : decode cX5_book 24 = .ok (.iload 4, 2) := by decide +kernel
theorem dX5_book_26 : decode cX5_book 26 = .ok (.aload_n 0, 1) := by decide +kernel
theorem dX5_book_27 : decode cX5_book 27 = .ok (.getfield 31, 3) := by decide +kernel
theorem dX5_book_30 : decode cX5_book 30 = .ok (.iload_n 1, 1) := by decide +kernel
theorem dX5_book_31 : decode cX5_book 31 = .ok (.iaload, 1) := by decide +kernel
theorem dX5_book_32 : decode cX5_book 32 = .ok (.if_icmp .ge 41, 3) := by decide +kernel
theorem dX5_book_35 : decode cX5_book 35 = .ok (.aload_n 0, 1) := by decide +kernel
theorem dX5_book_36 : decode cX5_book 36 = .ok (.getfield 34, 3) := by decide +kernel
theorem dX5_book_39 : decode cX5_book 39 = .ok (.bipush 40, 2) := by decide +kernel
theorem dX5_book_41 : decode cX5_book 41 = .ok (.iload_n 1, 1) := by decide +kernel
theorem dX5_book_42 : decode cX5_book 42 = .ok (.imul, 1) := by decide +kernel
theorem dX5_book_43 : decode cX5_book 43 = .ok (.iload 4, 2) := by decide +kernel
theorem dX5_book_45 : decode cX5_book 45 = .ok (.iadd, 1) := by decide +kernel
theorem dX5_book_46 : decode cX5_book 46 = .ok (.aload_n 0, 1) := by decide +kernel
theorem dX5_book_47 : decode cX5_book 47 = .ok (.getfield 28, 3) := by decide +kernel
theorem dX5_book_50 : decode cX5_book 50 = .ok (.iload_n 1, 1) := by decide +kernel
theorem dX5_book_51 : decode cX5_book 51 = .ok (.iaload, 1) := by decide +kernel
theorem dX5_book_52 : decode cX5_book 52 = .ok (.aload_n 0, 1) := by decide +kernel
theorem dX5_book_53 : decode cX5_book 53 = .ok (.iload_n 2, 1) := by decide +kernel
theorem dX5_book_54 : decode cX5_book 54 = .ok (.iconst 1, 1) := by decide +kernel
theorem dX5_book_55 : decode cX5_book 55 = .ok (.invokevirtual 84, 3) := by decide +kernel
theorem dX5_book_58 : decode cX5_book 58 = .ok (.i2l, 1) := by decide +kernel
theorem dX5_book_59 : decode cX5_book 59 = .ok (.invokestatic 321, 3) := by decide +kernel
theorem dX5_book_62 : decode cX5_book 62 = .ok (.lastore, 1) := by decide +kernel
theorem dX5_book_63 : decode cX5_book 63 = .ok (.aload_n 0, 1) := by decide +kernel
theorem dX5_book_64 : decode cX5_book 64 = .ok (.invokevirtual 163, 3) := by decide +kernel
theorem dX5_book_67 : decode cX5_book 67 = .ok (.iinc 4 1, 3) := by decide +kernel
theorem dX5_book_70 : decode cX5_book 70 = .ok (.goto (-46), 3) := by decide +kernel
theorem dX5_book_73 : decode cX5_book 73 = .ok (.aload_n 0, 1) := by decide +kernel
theorem dX5_book_74 : decode cX5_book 74 = .ok (.aload_n 0, 1) := by decide +kernel
theorem dX5_book_75 : decode cX5_book 75 = .ok (.getfield 31, 3) := by decide +kernel
theorem dX5_book_78 : decode cX5_book 78 = .ok (.iload_n 1, 1) := by decide +kernel
theorem dX5_book_79 : decode cX5_book 79 = .ok (.iaload, 1) := by decide +kernel
theorem dX5_book_80 : decode cX5_book 80 = .ok (.invokevirtual 187, 3) := by decide +kernel
theorem dX5_book_83 : decode cX5_book 83 = .ok (.ireturn, 1) := by decide +kernel
theorem dX5_isBook_0 : decode cX5_isBook 0 = .ok (.iconst 0, 1) := by decide +kernel
theorem dX5_isBook_1 : decode cX5_isBook 1 = .ok (.istore_n 3, 1) := by decide +kernel
theorem dX5_isBook_2 : decode cX5_isBook 2 = .ok (.iload_n 3, 1) := by decide +kernel
theorem dX5_isBook_3 : decode cX5_isBook 3 = .ok (.aload_n 0, 1) := by decide +kernel
theorem dX5_isBook_4 : decode cX5_isBook 4 = .ok (.getfield 31, 3) := by decide +kernel
theorem dX5_isBook_7 : decode cX5_isBook 7 = .ok (.iload_n 1, 1) := by decide +kernel
theorem dX5_isBook_8 : decode cX5_isBook 8 = .ok (.iaload, 1) := by decide +kernel
theorem dX5_isBook_9 : decode cX5_isBook 9 = .ok (.if_icmp .ge 37, 3) := by decide +kernel
theorem dX5_isBook_12 : decode cX5_isBook 12 = .ok (.aload_n 0, 1) := by decide +kernel
theorem dX5_isBook_13 : decode cX5_isBook 13 = .ok (.getfield 34, 3) := by decide +kernel
theorem dX5_isBook_16 : decode cX5_isBook 16 = .ok (.bipush 40, 2) := by decide +kernel
theorem dX5_isBook_18 : decode cX5_isBook 18 = .ok (.iload_n 1, 1) := by decide +kernel
theorem dX5_isBook_19 : decode cX5_isBook 19 = .ok (.imul, 1) := by decide +kernel
theorem dX5_isBook_20 : decode cX5_isBook 20 = .ok (.iload_n 3, 1) := by decide +kernel
theorem dX5_isBook_21 : decode cX5_isBook 21 = .ok (.iadd, 1) := by decide +kernel
theorem dX5_isBook_22 : decode cX5_isBook 22 = .ok (.laload, 1) := by decide +kernel
theorem dX5_isBook_23 : decode cX5_isBook 23 = .ok (.aload_n 0, 1) := by decide +kernel
theorem dX5_isBook_24 : decode cX5_isBook 24 = .ok (.iload_n 2, 1) := by decide +kernel
theorem dX5_isBook_25 : decode cX5_isBook 25 = .ok (.iconst 1, 1) := by decide +kernel
theorem dX5_isBook_26 : decode cX5_isBook 26 = .ok (.invokevirtual 84, 3) := by decide +kernel
theorem dX5_isBook_29 : decode cX5_isBook 29 = .ok (.i2l, 1) := by decide +kernel
theorem dX5_isBook_30 : decode cX5_isBook 30 = .ok (.lcmp, 1) := by decide +kernel
theorem dX5_isBook_31 : decode cX5_isBook 31 = .ok (.ifCond .eq 5, 3) := by decide +kernel
theorem dX5_isBook_34 : decode cX5_isBook 34 = .ok (.iconst 0, 1) := by decide +kernel
theorem dX5_isBook_35 : decode cX5_isBook 35 = .ok (.ireturn, 1) := by decide +kernel
theorem dX5_isBook_36 : decode cX5_isBook 36 = .ok (.aload_n 0, 1) := by decide +kernel
theorem dX5_isBook_37 : decode cX5_isBook 37 = .ok (.invokevirtual 163, 3) := by decide +kernel
theorem dX5_isBook_40 : decode cX5_isBook 40 = .ok (.iinc 3 1, 3) := by decide +kernel
theorem dX5_isBook_43 : decode cX5_isBook 43 = .ok (.goto (-41), 3) := by decide +kernel
theorem dX5_isBook_46 : decode cX5_isBook 46 = .ok (.iconst 1, 1) := by decide +kernel
theorem dX5_isBook_47 : decode cX5_isBook 47 = .ok (.ireturn, 1) := by decide +kernel
theorem dX5_read_0 : decode cX5_read 0 = .ok (.aload_n 0, 1) := by decide +kernel
theorem dX5_read_1 : decode cX5_read 1 = .ok (.iload_n 1, 1) := by decide +kernel
theorem dX5_read_2 : decode cX5_read 2 = .ok (.iload_n 2, 1) := by decide +kernel
theorem dX5_read_3 : decode cX5_read 3 = .ok (.invokevirtual 325, 3) := by decide +kernel
theorem dX5_read_6 : decode cX5_read 6 = .ok (.istore_n 3, 1) := by decide +kernel
theorem dX5_read_7 : decode cX5_read 7 = .ok (.iload_n 3, 1) := by decide +kernel
theorem dX5_read_8 : decode cX5_read 8 = .ok (.ifCond .eq 9, 3) := by decide +kernel
theorem dX5_read_11 : decode cX5_read 11 = .ok (.aload_n 0, 1) := by decide +kernel
theorem dX5_read_12 : decode cX5_read 12 = .ok (.iload_n 3, 1) := by decide +kernel
theorem dX5_read_13 : decode cX5_read 13 = .ok (.invokevirtual 74, 3) := by decide +kernel
theorem dX5_read_16 : decode cX5_read 16 = .ok (.ireturn, 1) := by decide +kernel
theorem dX5_read_17 : decode cX5_read 17 = .ok (.aload_n 0, 1) := by decide +kernel
theorem dX5_read_18 : decode cX5_read 18 = .ok (.iload_n 2, 1) := by decide +kernel
theorem dX5_read_19 : decode cX5_read 19 = .ok (.invokevirtual 87, 3) := by decide +kernel
theorem dX5_read_22 : decode cX5_read 22 = .ok (.istore 4, 2) := by decide +kernel
theorem dX5_read_24 : decode cX5_read 24 = .ok (.aload_n 0, 1) := by decide +kernel
theorem dX5_read_25 : decode cX5_read 25 = .ok (.invokevirtual 184, 3) := by decide +kernel
theorem dX5_read_28 : decode cX5_read 28 = .ok (.iconst 0, 1) := by decide +kernel
theorem dX5_read_29 : decode cX5_read 29 = .ok (.istore 5, 2) := by decide +kernel
theorem dX5_read_31 : decode cX5_read 31 = .ok (.iconst 0, 1) := by decide +kernel
theorem dX5_read_32 : decode cX5_read 32 = .ok (.istore 6, 2) := by decide +kernel
theorem dX5_read_34 : decode cX5_read 34 = .ok (.iload 6, 2) := by decide +kernel
theorem dX5_read_36 : decode cX5_read 36 = .ok (.bipush 6, 2) := by decide +kernel
theorem dX5_read_38 : decode cX5_read 38 = .ok (.aload_n 0, 1) := by decide +kernel
theorem dX5_read_39 : decode cX5_read 39 = .ok (.getfield 7, 3) := by decide +kernel
theorem dX5_read_42 : decode cX5_read 42 = .ok (.iconst 0, 1) := by decide +kernel
theorem dX5_read_43 : decode cX5_read 43 = .ok (.iaload, 1) := by decide +kernel
theorem dX5_read_44 : decode cX5_read 44 = .ok (.imul, 1) := by decide +kernel
theorem dX5_read_45 : decode cX5_read 45 = .ok (.if_icmp .ge 65, 3) := by decide +kernel
theorem dX5_read_48 : decode cX5_read 48 = .ok (.iload 4, 2) := by decide +kernel
theorem dX5_read_50 : decode cX5_read 50 = .ok (.iload 6, 2) := by decide +kernel
theorem dX5_read_52 : decode cX5_read 52 = .ok (.bipush 6, 2) := by decide +kernel
theorem dX5_read_54 : decode cX5_read 54 = .ok (.idiv, 1) := by decide +kernel
theorem dX5_read_55 : decode cX5_read 55 = .ok (.ishr, 1) := by decide +kernel
theorem dX5_read_56 : decode cX5_read 56 = .ok (.iconst 1, 1) := by decide +kernel
theorem dX5_read_57 : decode cX5_read 57 = .ok (.iand, 1) := by decide +kernel
theorem dX5_read_58 : decode cX5_read 58 = .ok (.iconst 1, 1) := by decide +kernel
theorem dX5_read_59 : decode cX5_read 59 = .ok (.if_icmp .ne 45, 3) := by decide +kernel
theorem dX5_read_62 : decode cX5_read 62 = .ok (.aload_n 0, 1) := by decide +kernel
theorem dX5_read_63 : decode cX5_read 63 = .ok (.getfield 7, 3) := by decide +kernel
theorem dX5_read_66 : decode cX5_read 66 = .ok (.iload 6, 2) := by decide +kernel
theorem dX5_read_68 : decode cX5_read 68 = .ok (.bipush 6, 2) := by decide +kernel
theorem dX5_read_70 : decode cX5_read 70 = .ok (.idiv, 1) := by decide +kernel
theorem dX5_read_71 : decode cX5_read 71 = .ok (.iconst 0, 1) := by decide +kernel
theorem dX5_read_72 : decode cX5_read 72 = .ok (.invokestatic 56, 3) := by decide +kernel
theorem dX5_read_75 : decode cX5_read 75 = .ok (.iload 6, 2) := by decide +kernel
theorem dX5_read_77 : decode cX5_read 77 = .ok (.bipush 6, 2) := by decide +kernel
theorem dX5_read_79 : decode cX5_read 79 = .ok (.irem, 1) := by decide +kernel
theorem dX5_read_80 : decode cX5_read 80 = .ok (.iastore, 1) := by decide +kernel
theorem dX5_read_81 : decode cX5_read 81 = .ok (.aload_n 0, 1) := by decide +kernel
theorem dX5_read_82 : decode cX5_read 82 = .ok (.iload 5, 2) := by decide +kernel
theorem dX5_read_84 : decode cX5_read 84 = .ok (.aload_n 0, 1) := by decide +kernel
theorem dX5_read_85 : decode cX5_read 85 = .ok (.iload_n 1, 1) := by decide +kernel
theorem dX5_read_86 : decode cX5_read 86 = .ok (.iload_n 2, 1) := by decide +kernel
theorem dX5_read_87 : decode cX5_read 87 = .ok (.invokevirtual 328, 3) := by decide +kernel
theorem dX5_read_90 : decode cX5_read 90 = .ok (.ifCond .eq 7, 3) := by decide +kernel
theorem dX5_read_93 : decode cX5_read 93 = .ok (.iconst 1, 1) := by decide +kernel
theorem dX5_read_94 : decode cX5_read 94 = .ok (.goto 4, 3) := by decide +kernel
theorem dX5_read_97 : decode cX5_read 97 = .ok (.iconst 0, 1) := by decide +kernel
theorem dX5_read_98 : decode cX5_read 98 = .ok (.iadd, 1) := by decide +kernel
theorem dX5_read_99 : decode cX5_read 99 = .ok (.invokevirtual 187, 3) := by decide +kernel
theorem dX5_read_102 : decode cX5_read 102 = .ok (.istore 5, 2) := by decide +kernel
theorem dX5_read_104 : decode cX5_read 104 = .ok (.iinc 6 1, 3) := by decide +kernel
theorem dX5_read_107 : decode cX5_read 107 = .ok (.goto (-73), 3) := by decide +kernel
theorem dX5_read_110 : decode cX5_read 110 = .ok (.iload 5, 2) := by decide +kernel
theorem dX5_read_112 : decode cX5_read 112 = .ok (.ireturn, 1) := by decide +kernel
theorem dX5_image_0 : decode cX5_image 0 = .ok (.iconst 0, 1) := by decide +kernel
theorem dX5_image_1 : decode cX5_image 1 = .ok (.istore_n 1, 1) := by decide +kernel
theorem dX5_image_2 : decode cX5_image 2 = .ok (.iload_n 1, 1) := by decide +kernel
theorem dX5_image_3 : decode cX5_image 3 = .ok (.bipush 77, 2) := by decide +kernel
theorem dX5_image_5 : decode cX5_image 5 = .ok (.if_icmp .ge 21, 3) := by decide +kernel
theorem dX5_image_8 : decode cX5_image 8 = .ok (.aload_n 0, 1) := by decide +kernel
theorem dX5_image_9 : decode cX5_image 9 = .ok (.getfield 13, 3) := by decide +kernel
theorem dX5_image_12 : decode cX5_image 12 = .ok (.iload_n 1, 1) := by decide +kernel
theorem dX5_image_13 : decode cX5_image 13 = .ok (.aload_n 0, 1) := by decide +kernel
theorem dX5_image_14 : decode cX5_image 14 = .ok (.getfield 7, 3) := by decide +kernel
theorem dX5_image_17 : decode cX5_image 17 = .ok (.iload_n 1, 1) := by decide +kernel
theorem dX5_image_18 : decode cX5_image 18 = .ok (.iaload, 1) := by decide +kernel
theorem dX5_image_19 : decode cX5_image 19 = .ok (.iastore, 1) := by decide +kernel
theorem dX5_image_20 : decode cX5_image 20 = .ok (.iinc 1 1, 3) := by decide +kernel
theorem dX5_image_23 : decode cX5_image 23 = .ok (.goto (-21), 3) := by decide +kernel
theorem dX5_image_26 : decode cX5_image 26 = .ok (.aload_n 0, 1) := by decide +kernel
theorem dX5_image_27 : decode cX5_image 27 = .ok (.iconst 1, 1) := by decide +kernel
theorem dX5_image_28 : decode cX5_image 28 = .ok (.putfield 331, 3) := by decide +kernel
theorem dX5_image_31 : decode cX5_image 31 = .ok (.iconst 1, 1) := by decide +kernel
theorem dX5_image_32 : decode cX5_image 32 = .ok (.ireturn, 1) := by decide +kernel
theorem dX5_undo_0 : decode cX5_undo 0 = .ok (.aload_n 0, 1) := by decide +kernel
theorem dX5_undo_1 : decode cX5_undo 1 = .ok (.getfield 331, 3) := by decide +kernel
theorem dX5_undo_4 : decode cX5_undo 4 = .ok (.ifCond .ne 10, 3) := by decide +kernel
theorem dX5_undo_7 : decode cX5_undo 7 = .ok (.aload_n 0, 1) := by decide +kernel
theorem dX5_undo_8 : decode cX5_undo 8 = .ok (.ldc 196, 2) := by decide +kernel
theorem dX5_undo_10 : decode cX5_undo 10 = .ok (.invokevirtual 74, 3) := by decide +kernel
theorem dX5_undo_13 : decode cX5_undo 13 = .ok (.ireturn, 1) := by decide +kernel
theorem dX5_undo_14 : decode cX5_undo 14 = .ok (.iconst 0, 1) := by decide +kernel
theorem dX5_undo_15 : decode cX5_undo 15 = .ok (.istore_n 1, 1) := by decide +kernel
theorem dX5_undo_16 : decode cX5_undo 16 = .ok (.iload_n 1, 1) := by decide +kernel
theorem dX5_undo_17 : decode cX5_undo 17 = .ok (.bipush 77, 2) := by decide +kernel
theorem dX5_undo_19 : decode cX5_undo 19 = .ok (.if_icmp .ge 21, 3) := by decide +kernel
theorem dX5_undo_22 : decode cX5_undo 22 = .ok (.aload_n 0, 1) := by decide +kernel
theorem dX5_undo_23 : decode cX5_undo 23 = .ok (.getfield 7, 3) := by decide +kernel
theorem dX5_undo_26 : decode cX5_undo 26 = .ok (.iload_n 1, 1) := by decide +kernel
theorem dX5_undo_27 : decode cX5_undo 27 = .ok (.aload_n 0, 1) := by decide +kernel
theorem dX5_undo_28 : decode cX5_undo 28 = .ok (.getfield 13, 3) := by decide +kernel
theorem dX5_undo_31 : decode cX5_undo 31 = .ok (.iload_n 1, 1) := by decide +kernel
theorem dX5_undo_32 : decode cX5_undo 32 = .ok (.iaload, 1) := by decide +kernel
theorem dX5_undo_33 : decode cX5_undo 33 = .ok (.iastore, 1) := by decide +kernel
theorem dX5_undo_34 : decode cX5_undo 34 = .ok (.iinc 1 1, 3) := by decide +kernel
theorem dX5_undo_37 : decode cX5_undo 37 = .ok (.goto (-21), 3) := by decide +kernel
theorem dX5_undo_40 : decode cX5_undo 40 = .ok (.aload_n 0, 1) := by decide +kernel
theorem dX5_undo_41 : decode cX5_undo 41 = .ok (.getfield 7, 3) := by decide +kernel
theorem dX5_undo_44 : decode cX5_undo 44 = .ok (.iconst 0, 1) := by decide +kernel
theorem dX5_undo_45 : decode cX5_undo 45 = .ok (.iaload, 1) := by decide +kernel
theorem dX5_undo_46 : decode cX5_undo 46 = .ok (.ireturn, 1) := by decide +kernel
theorem dX5_tear_0 : decode cX5_tear 0 = .ok (.aload_n 0, 1) := by decide +kernel
theorem dX5_tear_1 : decode cX5_tear 1 = .ok (.getfield 331, 3) := by decide +kernel
theorem dX5_tear_4 : decode cX5_tear 4 = .ok (.ifCond .eq 7, 3) := by decide +kernel
theorem dX5_tear_7 : decode cX5_tear 7 = .ok (.iconst 1, 1) := by decide +kernel
theorem dX5_tear_8 : decode cX5_tear 8 = .ok (.goto 4, 3) := by decide +kernel
theorem dX5_tear_11 : decode cX5_tear 11 = .ok (.iconst 0, 1) := by decide +kernel
theorem dX5_tear_12 : decode cX5_tear 12 = .ok (.istore_n 1, 1) := by decide +kernel
theorem dX5_tear_13 : decode cX5_tear 13 = .ok (.aload_n 0, 1) := by decide +kernel
theorem dX5_tear_14 : decode cX5_tear 14 = .ok (.iconst 0, 1) := by decide +kernel
theorem dX5_tear_15 : decode cX5_tear 15 = .ok (.putfield 331, 3) := by decide +kernel
theorem dX5_tear_18 : decode cX5_tear 18 = .ok (.iload_n 1, 1) := by decide +kernel
theorem dX5_tear_19 : decode cX5_tear 19 = .ok (.ireturn, 1) := by decide +kernel
theorem dX5_bedsAll_0 : decode cX5_bedsAll 0 = .ok (.iconst 0, 1) := by decide +kernel
theorem dX5_bedsAll_1 : decode cX5_bedsAll 1 = .ok (.istore_n 1, 1) := by decide +kernel
theorem dX5_bedsAll_2 : decode cX5_bedsAll 2 = .ok (.iconst 0, 1) := by decide +kernel
theorem dX5_bedsAll_3 : decode cX5_bedsAll 3 = .ok (.istore_n 2, 1) := by decide +kernel
theorem dX5_bedsAll_4 : decode cX5_bedsAll 4 = .ok (.iload_n 2, 1) := by decide +kernel
theorem dX5_bedsAll_5 : decode cX5_bedsAll 5 = .ok (.bipush 8, 2) := by decide +kernel
theorem dX5_bedsAll_7 : decode cX5_bedsAll 7 = .ok (.if_icmp .ge 18, 3) := by decide +kernel
theorem dX5_bedsAll_10 : decode cX5_bedsAll 10 = .ok (.iload_n 1, 1) := by decide +kernel
theorem dX5_bedsAll_11 : decode cX5_bedsAll 11 = .ok (.aload_n 0, 1) := by decide +kernel
theorem dX5_bedsAll_12 : decode cX5_bedsAll 12 = .ok (.iload_n 2, 1) := by decide +kernel
theorem dX5_bedsAll_13 : decode cX5_bedsAll 13 = .ok (.iconst 0, 1) := by decide +kernel
theorem dX5_bedsAll_14 : decode cX5_bedsAll 14 = .ok (.invokevirtual 84, 3) := by decide +kernel
theorem dX5_bedsAll_17 : decode cX5_bedsAll 17 = .ok (.iadd, 1) := by decide +kernel
theorem dX5_bedsAll_18 : decode cX5_bedsAll 18 = .ok (.istore_n 1, 1) := by decide +kernel
theorem dX5_bedsAll_19 : decode cX5_bedsAll 19 = .ok (.iinc 2 1, 3) := by decide +kernel
theorem dX5_bedsAll_22 : decode cX5_bedsAll 22 = .ok (.goto (-18), 3) := by decide +kernel
theorem dX5_bedsAll_25 : decode cX5_bedsAll 25 = .ok (.iload_n 1, 1) := by decide +kernel
theorem dX5_bedsAll_26 : decode cX5_bedsAll 26 = .ok (.ireturn, 1) := by decide +kernel
theorem dX5_count_0 : decode cX5_count 0 = .ok (.iload_n 1, 1) := by decide +kernel
theorem dX5_count_1 : decode cX5_count 1 = .ok (.tableswitch 64 0 3 #[31, 38, 43, 59], 31) := by decide +kernel
theorem dX5_count_32 : decode cX5_count 32 = .ok (.aload_n 0, 1) := by decide +kernel
theorem dX5_count_33 : decode cX5_count 33 = .ok (.getfield 7, 3) := by decide +kernel
theorem dX5_count_36 : decode cX5_count 36 = .ok (.iconst 0, 1) := by decide +kernel
theorem dX5_count_37 : decode cX5_count 37 = .ok (.iaload, 1) := by decide +kernel
theorem dX5_count_38 : decode cX5_count 38 = .ok (.ireturn, 1) := by decide +kernel
theorem dX5_count_39 : decode cX5_count 39 = .ok (.aload_n 0, 1) := by decide +kernel
theorem dX5_count_40 : decode cX5_count 40 = .ok (.getfield 208, 3) := by decide +kernel
theorem dX5_count_43 : decode cX5_count 43 = .ok (.ireturn, 1) := by decide +kernel
theorem dX5_count_44 : decode cX5_count 44 = .ok (.aload_n 0, 1) := by decide +kernel
theorem dX5_count_45 : decode cX5_count 45 = .ok (.getfield 7, 3) := by decide +kernel
theorem dX5_count_48 : decode cX5_count 48 = .ok (.iconst 0, 1) := by decide +kernel
theorem dX5_count_49 : decode cX5_count 49 = .ok (.iaload, 1) := by decide +kernel
theorem dX5_count_50 : decode cX5_count 50 = .ok (.aload_n 0, 1) := by decide +kernel
theorem dX5_count_51 : decode cX5_count 51 = .ok (.iconst (-1), 1) := by decide +kernel
theorem dX5_count_52 : decode cX5_count 52 = .ok (.invokevirtual 87, 3) := by decide +kernel
theorem dX5_count_55 : decode cX5_count 55 = .ok (.invokestatic 122, 3) := by decide +kernel
theorem dX5_count_58 : decode cX5_count 58 = .ok (.isub, 1) := by decide +kernel
theorem dX5_count_59 : decode cX5_count 59 = .ok (.ireturn, 1) := by decide +kernel
theorem dX5_count_60 : decode cX5_count 60 = .ok (.aload_n 0, 1) := by decide +kernel
theorem dX5_count_61 : decode cX5_count 61 = .ok (.invokevirtual 334, 3) := by decide +kernel
theorem dX5_count_64 : decode cX5_count 64 = .ok (.ireturn, 1) := by decide +kernel
theorem dX5_count_65 : decode cX5_count 65 = .ok (.aload_n 0, 1) := by decide +kernel
theorem dX5_count_66 : decode cX5_count 66 = .ok (.ldc 45, 2) := by decide +kernel
theorem dX5_count_68 : decode cX5_count 68 = .ok (.invokevirtual 74, 3) := by decide +kernel
theorem dX5_count_71 : decode cX5_count 71 = .ok (.ireturn, 1) := by decide +kernel
theorem dX5_status_0 : decode cX5_status 0 = .ok (.iload_n 1, 1) := by decide +kernel
theorem dX5_status_1 : decode cX5_status 1 = .ok (.i2l, 1) := by decide +kernel
theorem dX5_status_2 : decode cX5_status 2 = .ok (.ldc2_w 337, 3) := by decide +kernel
theorem dX5_status_5 : decode cX5_status 5 = .ok (.ldc2_w 339, 3) := by decide +kernel
theorem dX5_status_8 : decode cX5_status 8 = .ok (.invokestatic 48, 3) := by decide +kernel
theorem dX5_status_11 : decode cX5_status 11 = .ok (.ifCond .ne 10, 3) := by decide +kernel
theorem dX5_status_14 : decode cX5_status 14 = .ok (.aload_n 0, 1) := by decide +kernel
theorem dX5_status_15 : decode cX5_status 15 = .ok (.ldc 45, 2) := by decide +kernel
theorem dX5_status_17 : decode cX5_status 17 = .ok (.invokevirtual 74, 3) := by decide +kernel
theorem dX5_status_20 : decode cX5_status 20 = .ok (.ireturn, 1) := by decide +kernel
theorem dX5_status_21 : decode cX5_status 21 = .ok (.iconst 0, 1) := by decide +kernel
theorem dX5_status_22 : decode cX5_status 22 = .ok (.istore_n 2, 1) := by decide +kernel
theorem dX5_status_23 : decode cX5_status 23 = .ok (.iconst 0, 1) := by decide +kernel
theorem dX5_status_24 : decode cX5_status 24 = .ok (.istore_n 3, 1) := by decide +kernel
theorem dX5_status_25 : decode cX5_status 25 = .ok (.iload_n 3, 1) := by decide +kernel
theorem dX5_status_26 : decode cX5_status 26 = .ok (.bipush 7, 2) := by decide +kernel
theorem dX5_status_28 : decode cX5_status 28 = .ok (.if_icmp .ge 31, 3) := by decide +kernel
theorem dX5_status_31 : decode cX5_status 31 = .ok (.iload_n 2, 1) := by decide +kernel
theorem dX5_status_32 : decode cX5_status 32 = .ok (.iload_n 1, 1) := by decide +kernel
theorem dX5_status_33 : decode cX5_status 33 = .ok (.ifCond .lt 8, 3) := by decide +kernel
theorem dX5_status_36 : decode cX5_status 36 = .ok (.iload_n 3, 1) := by decide +kernel
theorem dX5_status_37 : decode cX5_status 37 = .ok (.iload_n 1, 1) := by decide +kernel
theorem dX5_status_38 : decode cX5_status 38 = .ok (.if_icmp .ne 12, 3) := by decide +kernel
theorem dX5_status_41 : decode cX5_status 41 = .ok (.aload_n 0, 1) := by decide +kernel
theorem dX5_status_42 : decode cX5_status 42 = .ok (.getfield 22, 3) := by decide +kernel
theorem dX5_status_45 : decode cX5_status 45 = .ok (.iload_n 3, 1) := by decide +kernel
theorem dX5_status_46 : decode cX5_status 46 = .ok (.iaload, 1) := by decide +kernel
theorem dX5_status_47 : decode cX5_status 47 = .ok (.goto 4, 3) := by decide +kernel
theorem dX5_status_50 : decode cX5_status 50 = .ok (.iconst 0, 1) := by decide +kernel
theorem dX5_status_51 : decode cX5_status 51 = .ok (.iadd, 1) := by decide +kernel
theorem dX5_status_52 : decode cX5_status 52 = .ok (.istore_n 2, 1) := by decide +kernel
theorem dX5_status_53 : decode cX5_status 53 = .ok (.iinc 3 1, 3) := by decide +kernel
theorem dX5_status_56 : decode cX5_status 56 = .ok (.goto (-31), 3) := by decide +kernel
theorem dX5_status_59 : decode cX5_status 59 = .ok (.iload_n 2, 1) := by decide +kernel
theorem dX5_status_60 : decode cX5_status 60 = .ok (.ireturn, 1) := by decide +kernel
