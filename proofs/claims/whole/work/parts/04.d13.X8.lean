theorem dX8_meets_78 : decode cX8_meets 78 = .ok (.iconst 1, 1) := by decide +kernel
theorem dX8_meets_79 : decode cX8_meets 79 = .ok (.goto 4, 3) := by decide +kernel
theorem dX8_meets_82 : decode cX8_meets 82 = .ok (.iconst 0, 1) := by decide +kernel
theorem dX8_meets_83 : decode cX8_meets 83 = .ok (.iadd, 1) := by decide +kernel
theorem dX8_meets_84 : decode cX8_meets 84 = .ok (.istore 4, 2) := by decide +kernel
theorem dX8_meets_86 : decode cX8_meets 86 = .ok (.iinc 5 1, 3) := by decide +kernel
theorem dX8_meets_89 : decode cX8_meets 89 = .ok (.goto (-36), 3) := by decide +kernel
theorem dX8_meets_92 : decode cX8_meets 92 = .ok (.iload 4, 2) := by decide +kernel
theorem dX8_meets_94 : decode cX8_meets 94 = .ok (.ireturn, 1) := by decide +kernel
theorem dX8_best_0 : decode cX8_best 0 = .ok (.aload_n 0, 1) := by decide +kernel
theorem dX8_best_1 : decode cX8_best 1 = .ok (.aload_n 0, 1) := by decide +kernel
theorem dX8_best_2 : decode cX8_best 2 = .ok (.iload_n 1, 1) := by decide +kernel
theorem dX8_best_3 : decode cX8_best 3 = .ok (.invokevirtual 205, 3) := by decide +kernel
theorem dX8_best_6 : decode cX8_best 6 = .ok (.ifCond .ne 7, 3) := by decide +kernel
theorem dX8_best_9 : decode cX8_best 9 = .ok (.iconst 1, 1) := by decide +kernel
theorem dX8_best_10 : decode cX8_best 10 = .ok (.goto 4, 3) := by decide +kernel
theorem dX8_best_13 : decode cX8_best 13 = .ok (.iconst 0, 1) := by decide +kernel
theorem dX8_best_14 : decode cX8_best 14 = .ok (.putfield 122, 3) := by decide +kernel
theorem dX8_best_17 : decode cX8_best 17 = .ok (.aload_n 0, 1) := by decide +kernel
theorem dX8_best_18 : decode cX8_best 18 = .ok (.getfield 122, 3) := by decide +kernel
theorem dX8_best_21 : decode cX8_best 21 = .ok (.ifCond .le 5, 3) := by decide +kernel
theorem dX8_best_24 : decode cX8_best 24 = .ok (.iconst 0, 1) := by decide +kernel
theorem dX8_best_25 : decode cX8_best 25 = .ok (.ireturn, 1) := by decide +kernel
theorem dX8_best_26 : decode cX8_best 26 = .ok (.iconst (-1), 1) := by decide +kernel
theorem dX8_best_27 : decode cX8_best 27 = .ok (.istore_n 3, 1) := by decide +kernel
theorem dX8_best_28 : decode cX8_best 28 = .ok (.iconst 0, 1) := by decide +kernel
theorem dX8_best_29 : decode cX8_best 29 = .ok (.istore 4, 2) := by decide +kernel
theorem dX8_best_31 : decode cX8_best 31 = .ok (.iload 4, 2) := by decide +kernel
theorem dX8_best_33 : decode cX8_best 33 = .ok (.aload_n 0, 1) := by decide +kernel
theorem dX8_best_34 : decode cX8_best 34 = .ok (.getfield 126, 3) := by decide +kernel
theorem dX8_best_37 : decode cX8_best 37 = .ok (.if_icmp .ge 79, 3) := by decide +kernel
theorem dX8_best_40 : decode cX8_best 40 = .ok (.aload_n 0, 1) := by decide +kernel
theorem dX8_best_41 : decode cX8_best 41 = .ok (.getfield 7, 3) := by decide +kernel
theorem dX8_best_44 : decode cX8_best 44 = .ok (.iload 4, 2) := by decide +kernel
theorem dX8_best_46 : decode cX8_best 46 = .ok (.baload, 1) := by decide +kernel
theorem dX8_best_47 : decode cX8_best 47 = .ok (.istore 5, 2) := by decide +kernel
theorem dX8_best_49 : decode cX8_best 49 = .ok (.iconst 0, 1) := by decide +kernel
theorem dX8_best_50 : decode cX8_best 50 = .ok (.istore 6, 2) := by decide +kernel
theorem dX8_best_52 : decode cX8_best 52 = .ok (.iload 5, 2) := by decide +kernel
theorem dX8_best_54 : decode cX8_best 54 = .ok (.ifCond .eq 39, 3) := by decide +kernel
theorem dX8_best_57 : decode cX8_best 57 = .ok (.iload 6, 2) := by decide +kernel
theorem dX8_best_59 : decode cX8_best 59 = .ok (.aload_n 0, 1) := by decide +kernel
theorem dX8_best_60 : decode cX8_best 60 = .ok (.getfield 77, 3) := by decide +kernel
theorem dX8_best_63 : decode cX8_best 63 = .ok (.iload_n 1, 1) := by decide +kernel
theorem dX8_best_64 : decode cX8_best 64 = .ok (.iaload, 1) := by decide +kernel
theorem dX8_best_65 : decode cX8_best 65 = .ok (.if_icmp .ge 28, 3) := by decide +kernel
theorem dX8_best_68 : decode cX8_best 68 = .ok (.aload_n 0, 1) := by decide +kernel
theorem dX8_best_69 : decode cX8_best 69 = .ok (.iload_n 1, 1) := by decide +kernel
theorem dX8_best_70 : decode cX8_best 70 = .ok (.iload 4, 2) := by decide +kernel
theorem dX8_best_72 : decode cX8_best 72 = .ok (.iload 6, 2) := by decide +kernel
theorem dX8_best_74 : decode cX8_best 74 = .ok (.invokevirtual 215, 3) := by decide +kernel
theorem dX8_best_77 : decode cX8_best 77 = .ok (.ifCond .ne 7, 3) := by decide +kernel
theorem dX8_best_80 : decode cX8_best 80 = .ok (.iconst 1, 1) := by decide +kernel
theorem dX8_best_81 : decode cX8_best 81 = .ok (.goto 4, 3) := by decide +kernel
theorem dX8_best_84 : decode cX8_best 84 = .ok (.iconst 0, 1) := by decide +kernel
theorem dX8_best_85 : decode cX8_best 85 = .ok (.istore 5, 2) := by decide +kernel
theorem dX8_best_87 : decode cX8_best 87 = .ok (.iinc 6 1, 3) := by decide +kernel
theorem dX8_best_90 : decode cX8_best 90 = .ok (.goto (-38), 3) := by decide +kernel
theorem dX8_best_93 : decode cX8_best 93 = .ok (.iload 5, 2) := by decide +kernel
theorem dX8_best_95 : decode cX8_best 95 = .ok (.ifCond .eq 15, 3) := by decide +kernel
theorem dX8_best_98 : decode cX8_best 98 = .ok (.iload_n 3, 1) := by decide +kernel
theorem dX8_best_99 : decode cX8_best 99 = .ok (.iconst (-1), 1) := by decide +kernel
theorem dX8_best_100 : decode cX8_best 100 = .ok (.if_icmp .eq 7, 3) := by decide +kernel
theorem dX8_best_103 : decode cX8_best 103 = .ok (.iload_n 2, 1) := by decide +kernel
theorem dX8_best_104 : decode cX8_best 104 = .ok (.ifCond .ne 6, 3) := by decide +kernel
theorem dX8_best_107 : decode cX8_best 107 = .ok (.iload 4, 2) := by decide +kernel
theorem dX8_best_109 : decode cX8_best 109 = .ok (.istore_n 3, 1) := by decide +kernel
theorem dX8_best_110 : decode cX8_best 110 = .ok (.iinc 4 1, 3) := by decide +kernel
theorem dX8_best_113 : decode cX8_best 113 = .ok (.goto (-82), 3) := by decide +kernel
theorem dX8_best_116 : decode cX8_best 116 = .ok (.iload_n 3, 1) := by decide +kernel
theorem dX8_best_117 : decode cX8_best 117 = .ok (.ireturn, 1) := by decide +kernel
theorem dX8_pairFault_0 : decode cX8_pairFault 0 = .ok (.aload_n 0, 1) := by decide +kernel
theorem dX8_pairFault_1 : decode cX8_pairFault 1 = .ok (.iload_n 1, 1) := by decide +kernel
theorem dX8_pairFault_2 : decode cX8_pairFault 2 = .ok (.invokevirtual 132, 3) := by decide +kernel
theorem dX8_pairFault_5 : decode cX8_pairFault 5 = .ok (.ifCond .eq 11, 3) := by decide +kernel
theorem dX8_pairFault_8 : decode cX8_pairFault 8 = .ok (.aload_n 0, 1) := by decide +kernel
theorem dX8_pairFault_9 : decode cX8_pairFault 9 = .ok (.iload_n 2, 1) := by decide +kernel
theorem dX8_pairFault_10 : decode cX8_pairFault 10 = .ok (.invokevirtual 132, 3) := by decide +kernel
theorem dX8_pairFault_13 : decode cX8_pairFault 13 = .ok (.ifCond .ne 7, 3) := by decide +kernel
theorem dX8_pairFault_16 : decode cX8_pairFault 16 = .ok (.iconst 1, 1) := by decide +kernel
theorem dX8_pairFault_17 : decode cX8_pairFault 17 = .ok (.goto 26, 3) := by decide +kernel
theorem dX8_pairFault_20 : decode cX8_pairFault 20 = .ok (.aload_n 0, 1) := by decide +kernel
theorem dX8_pairFault_21 : decode cX8_pairFault 21 = .ok (.getfield 7, 3) := by decide +kernel
theorem dX8_pairFault_24 : decode cX8_pairFault 24 = .ok (.iload_n 1, 1) := by decide +kernel
theorem dX8_pairFault_25 : decode cX8_pairFault 25 = .ok (.baload, 1) := by decide +kernel
theorem dX8_pairFault_26 : decode cX8_pairFault 26 = .ok (.ifCond .eq 12, 3) := by decide +kernel
theorem dX8_pairFault_29 : decode cX8_pairFault 29 = .ok (.aload_n 0, 1) := by decide +kernel
theorem dX8_pairFault_30 : decode cX8_pairFault 30 = .ok (.getfield 7, 3) := by decide +kernel
theorem dX8_pairFault_33 : decode cX8_pairFault 33 = .ok (.iload_n 2, 1) := by decide +kernel
theorem dX8_pairFault_34 : decode cX8_pairFault 34 = .ok (.baload, 1) := by decide +kernel
theorem dX8_pairFault_35 : decode cX8_pairFault 35 = .ok (.ifCond .ne 7, 3) := by decide +kernel
theorem dX8_pairFault_38 : decode cX8_pairFault 38 = .ok (.iconst 2, 1) := by decide +kernel
theorem dX8_pairFault_39 : decode cX8_pairFault 39 = .ok (.goto 4, 3) := by decide +kernel
theorem dX8_pairFault_42 : decode cX8_pairFault 42 = .ok (.iconst 0, 1) := by decide +kernel
theorem dX8_pairFault_43 : decode cX8_pairFault 43 = .ok (.ireturn, 1) := by decide +kernel
theorem dX8_tell_0 : decode cX8_tell 0 = .ok (.aload_n 0, 1) := by decide +kernel
theorem dX8_tell_1 : decode cX8_tell 1 = .ok (.getfield 98, 3) := by decide +kernel
theorem dX8_tell_4 : decode cX8_tell 4 = .ok (.aload_n 0, 1) := by decide +kernel
theorem dX8_tell_5 : decode cX8_tell 5 = .ok (.getfield 218, 3) := by decide +kernel
theorem dX8_tell_8 : decode cX8_tell 8 = .ok (.iload_n 1, 1) := by decide +kernel
theorem dX8_tell_9 : decode cX8_tell 9 = .ok (.iastore, 1) := by decide +kernel
theorem dX8_tell_10 : decode cX8_tell 10 = .ok (.aload_n 0, 1) := by decide +kernel
theorem dX8_tell_11 : decode cX8_tell 11 = .ok (.getfield 101, 3) := by decide +kernel
theorem dX8_tell_14 : decode cX8_tell 14 = .ok (.aload_n 0, 1) := by decide +kernel
theorem dX8_tell_15 : decode cX8_tell 15 = .ok (.getfield 218, 3) := by decide +kernel
theorem dX8_tell_18 : decode cX8_tell 18 = .ok (.iload_n 2, 1) := by decide +kernel
theorem dX8_tell_19 : decode cX8_tell 19 = .ok (.iastore, 1) := by decide +kernel
theorem dX8_tell_20 : decode cX8_tell 20 = .ok (.aload_n 0, 1) := by decide +kernel
theorem dX8_tell_21 : decode cX8_tell 21 = .ok (.getfield 104, 3) := by decide +kernel
theorem dX8_tell_24 : decode cX8_tell 24 = .ok (.aload_n 0, 1) := by decide +kernel
theorem dX8_tell_25 : decode cX8_tell 25 = .ok (.getfield 218, 3) := by decide +kernel
theorem dX8_tell_28 : decode cX8_tell 28 = .ok (.iload_n 3, 1) := by decide +kernel
theorem dX8_tell_29 : decode cX8_tell 29 = .ok (.iastore, 1) := by decide +kernel
theorem dX8_tell_30 : decode cX8_tell 30 = .ok (.aload_n 0, 1) := by decide +kernel
theorem dX8_tell_31 : decode cX8_tell 31 = .ok (.getfield 107, 3) := by decide +kernel
theorem dX8_tell_34 : decode cX8_tell 34 = .ok (.aload_n 0, 1) := by decide +kernel
theorem dX8_tell_35 : decode cX8_tell 35 = .ok (.getfield 218, 3) := by decide +kernel
theorem dX8_tell_38 : decode cX8_tell 38 = .ok (.iload 4, 2) := by decide +kernel
theorem dX8_tell_40 : decode cX8_tell 40 = .ok (.iastore, 1) := by decide +kernel
theorem dX8_tell_41 : decode cX8_tell 41 = .ok (.aload_n 0, 1) := by decide +kernel
theorem dX8_tell_42 : decode cX8_tell 42 = .ok (.getfield 110, 3) := by decide +kernel
theorem dX8_tell_45 : decode cX8_tell 45 = .ok (.aload_n 0, 1) := by decide +kernel
theorem dX8_tell_46 : decode cX8_tell 46 = .ok (.getfield 218, 3) := by decide +kernel
theorem dX8_tell_49 : decode cX8_tell 49 = .ok (.iload 5, 2) := by decide +kernel
theorem dX8_tell_51 : decode cX8_tell 51 = .ok (.iastore, 1) := by decide +kernel
theorem dX8_tell_52 : decode cX8_tell 52 = .ok (.aload_n 0, 1) := by decide +kernel
theorem dX8_tell_53 : decode cX8_tell 53 = .ok (.getfield 113, 3) := by decide +kernel
theorem dX8_tell_56 : decode cX8_tell 56 = .ok (.aload_n 0, 1) := by decide +kernel
theorem dX8_tell_57 : decode cX8_tell 57 = .ok (.getfield 218, 3) := by decide +kernel
theorem dX8_tell_60 : decode cX8_tell 60 = .ok (.iload 6, 2) := by decide +kernel
theorem dX8_tell_62 : decode cX8_tell 62 = .ok (.iastore, 1) := by decide +kernel
theorem dX8_tell_63 : decode cX8_tell 63 = .ok (.aload_n 0, 1) := by decide +kernel
theorem dX8_tell_64 : decode cX8_tell 64 = .ok (.dup, 1) := by decide +kernel
theorem dX8_tell_65 : decode cX8_tell 65 = .ok (.getfield 218, 3) := by decide +kernel
theorem dX8_tell_68 : decode cX8_tell 68 = .ok (.iconst 1, 1) := by decide +kernel
theorem dX8_tell_69 : decode cX8_tell 69 = .ok (.iadd, 1) := by decide +kernel
theorem dX8_tell_70 : decode cX8_tell 70 = .ok (.putfield 218, 3) := by decide +kernel
theorem dX8_tell_73 : decode cX8_tell 73 = .ok (.return_, 1) := by decide +kernel
theorem dX8_isLike_0 : decode cX8_isLike 0 = .ok (.aload_n 0, 1) := by decide +kernel
theorem dX8_isLike_1 : decode cX8_isLike 1 = .ok (.getfield 56, 3) := by decide +kernel
theorem dX8_isLike_4 : decode cX8_isLike 4 = .ok (.iload_n 1, 1) := by decide +kernel
theorem dX8_isLike_5 : decode cX8_isLike 5 = .ok (.baload, 1) := by decide +kernel
theorem dX8_isLike_6 : decode cX8_isLike 6 = .ok (.aload_n 0, 1) := by decide +kernel
theorem dX8_isLike_7 : decode cX8_isLike 7 = .ok (.getfield 56, 3) := by decide +kernel
theorem dX8_isLike_10 : decode cX8_isLike 10 = .ok (.iload_n 2, 1) := by decide +kernel
theorem dX8_isLike_11 : decode cX8_isLike 11 = .ok (.baload, 1) := by decide +kernel
theorem dX8_isLike_12 : decode cX8_isLike 12 = .ok (.if_icmp .ne 37, 3) := by decide +kernel
theorem dX8_isLike_15 : decode cX8_isLike 15 = .ok (.aload_n 0, 1) := by decide +kernel
theorem dX8_isLike_16 : decode cX8_isLike 16 = .ok (.getfield 59, 3) := by decide +kernel
theorem dX8_isLike_19 : decode cX8_isLike 19 = .ok (.iload_n 1, 1) := by decide +kernel
theorem dX8_isLike_20 : decode cX8_isLike 20 = .ok (.iaload, 1) := by decide +kernel
theorem dX8_isLike_21 : decode cX8_isLike 21 = .ok (.aload_n 0, 1) := by decide +kernel
theorem dX8_isLike_22 : decode cX8_isLike 22 = .ok (.getfield 59, 3) := by decide +kernel
theorem dX8_isLike_25 : decode cX8_isLike 25 = .ok (.iload_n 2, 1) := by decide +kernel
theorem dX8_isLike_26 : decode cX8_isLike 26 = .ok (.iaload, 1) := by decide +kernel
theorem dX8_isLike_27 : decode cX8_isLike 27 = .ok (.if_icmp .ne 22, 3) := by decide +kernel
theorem dX8_isLike_30 : decode cX8_isLike 30 = .ok (.aload_n 0, 1) := by decide +kernel
theorem dX8_isLike_31 : decode cX8_isLike 31 = .ok (.getfield 62, 3) := by decide +kernel
theorem dX8_isLike_34 : decode cX8_isLike 34 = .ok (.iload_n 1, 1) := by decide +kernel
theorem dX8_isLike_35 : decode cX8_isLike 35 = .ok (.baload, 1) := by decide +kernel
theorem dX8_isLike_36 : decode cX8_isLike 36 = .ok (.aload_n 0, 1) := by decide +kernel
theorem dX8_isLike_37 : decode cX8_isLike 37 = .ok (.getfield 62, 3) := by decide +kernel
theorem dX8_isLike_40 : decode cX8_isLike 40 = .ok (.iload_n 2, 1) := by decide +kernel
theorem dX8_isLike_41 : decode cX8_isLike 41 = .ok (.baload, 1) := by decide +kernel
theorem dX8_isLike_42 : decode cX8_isLike 42 = .ok (.if_icmp .ne 7, 3) := by decide +kernel
theorem dX8_isLike_45 : decode cX8_isLike 45 = .ok (.iconst 1, 1) := by decide +kernel
theorem dX8_isLike_46 : decode cX8_isLike 46 = .ok (.goto 4, 3) := by decide +kernel
theorem dX8_isLike_49 : decode cX8_isLike 49 = .ok (.iconst 0, 1) := by decide +kernel
theorem dX8_isLike_50 : decode cX8_isLike 50 = .ok (.ireturn, 1) := by decide +kernel
theorem dX8_move_0 : decode cX8_move 0 = .ok (.iconst 0, 1) := by decide +kernel
theorem dX8_move_1 : decode cX8_move 1 = .ok (.istore_n 3, 1) := by decide +kernel
theorem dX8_move_2 : decode cX8_move 2 = .ok (.iload_n 3, 1) := by decide +kernel
theorem dX8_move_3 : decode cX8_move 3 = .ok (.sipush 480, 3) := by decide +kernel
theorem dX8_move_6 : decode cX8_move 6 = .ok (.if_icmp .ge 23, 3) := by decide +kernel
theorem dX8_move_9 : decode cX8_move 9 = .ok (.aload_n 0, 1) := by decide +kernel
theorem dX8_move_10 : decode cX8_move 10 = .ok (.getfield 116, 3) := by decide +kernel
theorem dX8_move_13 : decode cX8_move 13 = .ok (.iload_n 3, 1) := by decide +kernel
theorem dX8_move_14 : decode cX8_move 14 = .ok (.iconst 0, 1) := by decide +kernel
theorem dX8_move_15 : decode cX8_move 15 = .ok (.bastore, 1) := by decide +kernel
theorem dX8_move_16 : decode cX8_move 16 = .ok (.aload_n 0, 1) := by decide +kernel
theorem dX8_move_17 : decode cX8_move 17 = .ok (.getfield 119, 3) := by decide +kernel
theorem dX8_move_20 : decode cX8_move 20 = .ok (.iload_n 3, 1) := by decide +kernel
theorem dX8_move_21 : decode cX8_move 21 = .ok (.iconst (-1), 1) := by decide +kernel
theorem dX8_move_22 : decode cX8_move 22 = .ok (.iastore, 1) := by decide +kernel
theorem dX8_move_23 : decode cX8_move 23 = .ok (.iinc 3 1, 3) := by decide +kernel
theorem dX8_move_26 : decode cX8_move 26 = .ok (.goto (-24), 3) := by decide +kernel
theorem dX8_move_29 : decode cX8_move 29 = .ok (.iconst 0, 1) := by decide +kernel
theorem dX8_move_30 : decode cX8_move 30 = .ok (.istore_n 3, 1) := by decide +kernel
theorem dX8_move_31 : decode cX8_move 31 = .ok (.iload_n 3, 1) := by decide +kernel
theorem dX8_move_32 : decode cX8_move 32 = .ok (.bipush 16, 2) := by decide +kernel
theorem dX8_move_34 : decode cX8_move 34 = .ok (.if_icmp .ge 65, 3) := by decide +kernel
theorem dX8_move_37 : decode cX8_move 37 = .ok (.aload_n 0, 1) := by decide +kernel
theorem dX8_move_38 : decode cX8_move 38 = .ok (.iload_n 1, 1) := by decide +kernel
theorem dX8_move_39 : decode cX8_move 39 = .ok (.iload_n 3, 1) := by decide +kernel
theorem dX8_move_40 : decode cX8_move 40 = .ok (.invokevirtual 151, 3) := by decide +kernel
theorem dX8_move_43 : decode cX8_move 43 = .ok (.istore 4, 2) := by decide +kernel
theorem dX8_move_45 : decode cX8_move 45 = .ok (.iconst 0, 1) := by decide +kernel
theorem dX8_move_46 : decode cX8_move 46 = .ok (.istore 5, 2) := by decide +kernel
theorem dX8_move_48 : decode cX8_move 48 = .ok (.iload 4, 2) := by decide +kernel
theorem dX8_move_50 : decode cX8_move 50 = .ok (.iconst (-1), 1) := by decide +kernel
theorem dX8_move_51 : decode cX8_move 51 = .ok (.if_icmp .eq 42, 3) := by decide +kernel
theorem dX8_move_54 : decode cX8_move 54 = .ok (.iload 5, 2) := by decide +kernel
theorem dX8_move_56 : decode cX8_move 56 = .ok (.sipush 128, 3) := by decide +kernel
theorem dX8_move_59 : decode cX8_move 59 = .ok (.if_icmp .ge 34, 3) := by decide +kernel
theorem dX8_move_62 : decode cX8_move 62 = .ok (.aload_n 0, 1) := by decide +kernel
theorem dX8_move_63 : decode cX8_move 63 = .ok (.iload_n 1, 1) := by decide +kernel
theorem dX8_move_64 : decode cX8_move 64 = .ok (.iload_n 2, 1) := by decide +kernel
theorem dX8_move_65 : decode cX8_move 65 = .ok (.iload_n 3, 1) := by decide +kernel
theorem dX8_move_66 : decode cX8_move 66 = .ok (.iload 4, 2) := by decide +kernel
theorem dX8_move_68 : decode cX8_move 68 = .ok (.iload 5, 2) := by decide +kernel
theorem dX8_move_70 : decode cX8_move 70 = .ok (.bipush 64, 2) := by decide +kernel
theorem dX8_move_72 : decode cX8_move 72 = .ok (.idiv, 1) := by decide +kernel
theorem dX8_move_73 : decode cX8_move 73 = .ok (.iload 5, 2) := by decide +kernel
theorem dX8_move_75 : decode cX8_move 75 = .ok (.bipush 64, 2) := by decide +kernel
theorem dX8_move_77 : decode cX8_move 77 = .ok (.irem, 1) := by decide +kernel
theorem dX8_move_78 : decode cX8_move 78 = .ok (.iconst 4, 1) := by decide +kernel
theorem dX8_move_79 : decode cX8_move 79 = .ok (.idiv, 1) := by decide +kernel
theorem dX8_move_80 : decode cX8_move 80 = .ok (.iload 5, 2) := by decide +kernel
theorem dX8_move_82 : decode cX8_move 82 = .ok (.iconst 4, 1) := by decide +kernel
theorem dX8_move_83 : decode cX8_move 83 = .ok (.irem, 1) := by decide +kernel
theorem dX8_move_84 : decode cX8_move 84 = .ok (.invokevirtual 221, 3) := by decide +kernel
theorem dX8_move_87 : decode cX8_move 87 = .ok (.iinc 5 1, 3) := by decide +kernel
theorem dX8_move_90 : decode cX8_move 90 = .ok (.goto (-42), 3) := by decide +kernel
theorem dX8_move_93 : decode cX8_move 93 = .ok (.iinc 3 1, 3) := by decide +kernel
theorem dX8_move_96 : decode cX8_move 96 = .ok (.goto (-65), 3) := by decide +kernel
theorem dX8_move_99 : decode cX8_move 99 = .ok (.return_, 1) := by decide +kernel
theorem dX8_moveOne_0 : decode cX8_moveOne 0 = .ok (.aload_n 0, 1) := by decide +kernel
theorem dX8_moveOne_1 : decode cX8_moveOne 1 = .ok (.iload 4, 2) := by decide +kernel
theorem dX8_moveOne_3 : decode cX8_moveOne 3 = .ok (.iload 5, 2) := by decide +kernel
theorem dX8_moveOne_5 : decode cX8_moveOne 5 = .ok (.iload 6, 2) := by decide +kernel
theorem dX8_moveOne_7 : decode cX8_moveOne 7 = .ok (.iload 7, 2) := by decide +kernel
theorem dX8_moveOne_9 : decode cX8_moveOne 9 = .ok (.invokevirtual 155, 3) := by decide +kernel
theorem dX8_moveOne_12 : decode cX8_moveOne 12 = .ok (.istore 8, 2) := by decide +kernel
theorem dX8_moveOne_14 : decode cX8_moveOne 14 = .ok (.aload_n 0, 1) := by decide +kernel
theorem dX8_moveOne_15 : decode cX8_moveOne 15 = .ok (.iload_n 2, 1) := by decide +kernel
theorem dX8_moveOne_16 : decode cX8_moveOne 16 = .ok (.iload_n 3, 1) := by decide +kernel
theorem dX8_moveOne_17 : decode cX8_moveOne 17 = .ok (.invokevirtual 151, 3) := by decide +kernel
theorem dX8_moveOne_20 : decode cX8_moveOne 20 = .ok (.istore 9, 2) := by decide +kernel
theorem dX8_moveOne_22 : decode cX8_moveOne 22 = .ok (.iload 8, 2) := by decide +kernel
theorem dX8_moveOne_24 : decode cX8_moveOne 24 = .ok (.iconst (-1), 1) := by decide +kernel
theorem dX8_moveOne_25 : decode cX8_moveOne 25 = .ok (.if_icmp .eq 25, 3) := by decide +kernel
theorem dX8_moveOne_28 : decode cX8_moveOne 28 = .ok (.iload 9, 2) := by decide +kernel
theorem dX8_moveOne_30 : decode cX8_moveOne 30 = .ok (.iconst (-1), 1) := by decide +kernel
theorem dX8_moveOne_31 : decode cX8_moveOne 31 = .ok (.if_icmp .eq 20, 3) := by decide +kernel
theorem dX8_moveOne_34 : decode cX8_moveOne 34 = .ok (.aload_n 0, 1) := by decide +kernel
theorem dX8_moveOne_35 : decode cX8_moveOne 35 = .ok (.iload 9, 2) := by decide +kernel
theorem dX8_moveOne_37 : decode cX8_moveOne 37 = .ok (.iload 5, 2) := by decide +kernel
theorem dX8_moveOne_39 : decode cX8_moveOne 39 = .ok (.iload 6, 2) := by decide +kernel
theorem dX8_moveOne_41 : decode cX8_moveOne 41 = .ok (.iload 7, 2) := by decide +kernel
theorem dX8_moveOne_43 : decode cX8_moveOne 43 = .ok (.invokevirtual 155, 3) := by decide +kernel
theorem dX8_moveOne_46 : decode cX8_moveOne 46 = .ok (.iconst (-1), 1) := by decide +kernel
theorem dX8_moveOne_47 : decode cX8_moveOne 47 = .ok (.if_icmp .eq 4, 3) := by decide +kernel
theorem dX8_moveOne_50 : decode cX8_moveOne 50 = .ok (.return_, 1) := by decide +kernel
theorem dX8_moveOne_51 : decode cX8_moveOne 51 = .ok (.iconst 0, 1) := by decide +kernel
theorem dX8_moveOne_52 : decode cX8_moveOne 52 = .ok (.istore 10, 2) := by decide +kernel
theorem dX8_moveOne_54 : decode cX8_moveOne 54 = .ok (.iload 10, 2) := by decide +kernel
theorem dX8_moveOne_56 : decode cX8_moveOne 56 = .ok (.bipush 16, 2) := by decide +kernel
theorem dX8_moveOne_58 : decode cX8_moveOne 58 = .ok (.if_icmp .ge 176, 3) := by decide +kernel
theorem dX8_moveOne_61 : decode cX8_moveOne 61 = .ok (.aload_n 0, 1) := by decide +kernel
theorem dX8_moveOne_62 : decode cX8_moveOne 62 = .ok (.iload_n 1, 1) := by decide +kernel
theorem dX8_moveOne_63 : decode cX8_moveOne 63 = .ok (.iload 10, 2) := by decide +kernel
theorem dX8_moveOne_65 : decode cX8_moveOne 65 = .ok (.iload_n 3, 1) := by decide +kernel
theorem dX8_moveOne_66 : decode cX8_moveOne 66 = .ok (.invokevirtual 167, 3) := by decide +kernel
theorem dX8_moveOne_69 : decode cX8_moveOne 69 = .ok (.ifCond .ne 36, 3) := by decide +kernel
theorem dX8_moveOne_72 : decode cX8_moveOne 72 = .ok (.aload_n 0, 1) := by decide +kernel
theorem dX8_moveOne_73 : decode cX8_moveOne 73 = .ok (.iload_n 1, 1) := by decide +kernel
theorem dX8_moveOne_74 : decode cX8_moveOne 74 = .ok (.iload_n 3, 1) := by decide +kernel
theorem dX8_moveOne_75 : decode cX8_moveOne 75 = .ok (.iload 10, 2) := by decide +kernel
theorem dX8_moveOne_77 : decode cX8_moveOne 77 = .ok (.invokevirtual 167, 3) := by decide +kernel
theorem dX8_moveOne_80 : decode cX8_moveOne 80 = .ok (.ifCond .ne 25, 3) := by decide +kernel
theorem dX8_moveOne_83 : decode cX8_moveOne 83 = .ok (.aload_n 0, 1) := by decide +kernel
theorem dX8_moveOne_84 : decode cX8_moveOne 84 = .ok (.iload_n 2, 1) := by decide +kernel
theorem dX8_moveOne_85 : decode cX8_moveOne 85 = .ok (.iload 10, 2) := by decide +kernel
theorem dX8_moveOne_87 : decode cX8_moveOne 87 = .ok (.iload_n 3, 1) := by decide +kernel
theorem dX8_moveOne_88 : decode cX8_moveOne 88 = .ok (.invokevirtual 167, 3) := by decide +kernel
theorem dX8_moveOne_91 : decode cX8_moveOne 91 = .ok (.ifCond .ne 14, 3) := by decide +kernel
theorem dX8_moveOne_94 : decode cX8_moveOne 94 = .ok (.aload_n 0, 1) := by decide +kernel
theorem dX8_moveOne_95 : decode cX8_moveOne 95 = .ok (.iload_n 2, 1) := by decide +kernel
theorem dX8_moveOne_96 : decode cX8_moveOne 96 = .ok (.iload_n 3, 1) := by decide +kernel
theorem dX8_moveOne_97 : decode cX8_moveOne 97 = .ok (.iload 10, 2) := by decide +kernel
theorem dX8_moveOne_99 : decode cX8_moveOne 99 = .ok (.invokevirtual 167, 3) := by decide +kernel
theorem dX8_moveOne_102 : decode cX8_moveOne 102 = .ok (.ifCond .eq 7, 3) := by decide +kernel
theorem dX8_moveOne_105 : decode cX8_moveOne 105 = .ok (.iconst 1, 1) := by decide +kernel
theorem dX8_moveOne_106 : decode cX8_moveOne 106 = .ok (.goto 4, 3) := by decide +kernel
theorem dX8_moveOne_109 : decode cX8_moveOne 109 = .ok (.iconst 0, 1) := by decide +kernel
theorem dX8_moveOne_110 : decode cX8_moveOne 110 = .ok (.istore 11, 2) := by decide +kernel
theorem dX8_moveOne_112 : decode cX8_moveOne 112 = .ok (.aload_n 0, 1) := by decide +kernel
theorem dX8_moveOne_113 : decode cX8_moveOne 113 = .ok (.iload_n 2, 1) := by decide +kernel
theorem dX8_moveOne_114 : decode cX8_moveOne 114 = .ok (.iload 10, 2) := by decide +kernel
theorem dX8_moveOne_116 : decode cX8_moveOne 116 = .ok (.invokevirtual 151, 3) := by decide +kernel
theorem dX8_moveOne_119 : decode cX8_moveOne 119 = .ok (.istore 12, 2) := by decide +kernel
theorem dX8_moveOne_121 : decode cX8_moveOne 121 = .ok (.iload 11, 2) := by decide +kernel
theorem dX8_moveOne_123 : decode cX8_moveOne 123 = .ok (.ifCond .eq 105, 3) := by decide +kernel
theorem dX8_moveOne_126 : decode cX8_moveOne 126 = .ok (.iload 12, 2) := by decide +kernel
theorem dX8_moveOne_128 : decode cX8_moveOne 128 = .ok (.iconst (-1), 1) := by decide +kernel
theorem dX8_moveOne_129 : decode cX8_moveOne 129 = .ok (.if_icmp .ne 6, 3) := by decide +kernel
theorem dX8_moveOne_132 : decode cX8_moveOne 132 = .ok (.goto 96, 3) := by decide +kernel
theorem dX8_moveOne_135 : decode cX8_moveOne 135 = .ok (.aload_n 0, 1) := by decide +kernel
theorem dX8_moveOne_136 : decode cX8_moveOne 136 = .ok (.iload 12, 2) := by decide +kernel
theorem dX8_moveOne_138 : decode cX8_moveOne 138 = .ok (.iload 5, 2) := by decide +kernel
theorem dX8_moveOne_140 : decode cX8_moveOne 140 = .ok (.iload 6, 2) := by decide +kernel
theorem dX8_moveOne_142 : decode cX8_moveOne 142 = .ok (.iload 7, 2) := by decide +kernel
theorem dX8_moveOne_144 : decode cX8_moveOne 144 = .ok (.invokevirtual 155, 3) := by decide +kernel
theorem dX8_moveOne_147 : decode cX8_moveOne 147 = .ok (.istore 13, 2) := by decide +kernel
theorem dX8_moveOne_149 : decode cX8_moveOne 149 = .ok (.aload_n 0, 1) := by decide +kernel
theorem dX8_moveOne_150 : decode cX8_moveOne 150 = .ok (.iload_n 1, 1) := by decide +kernel
theorem dX8_moveOne_151 : decode cX8_moveOne 151 = .ok (.iload 10, 2) := by decide +kernel
theorem dX8_moveOne_153 : decode cX8_moveOne 153 = .ok (.invokevirtual 151, 3) := by decide +kernel
theorem dX8_moveOne_156 : decode cX8_moveOne 156 = .ok (.istore 14, 2) := by decide +kernel
theorem dX8_moveOne_158 : decode cX8_moveOne 158 = .ok (.iload 13, 2) := by decide +kernel
theorem dX8_moveOne_160 : decode cX8_moveOne 160 = .ok (.iconst (-1), 1) := by decide +kernel
theorem dX8_moveOne_161 : decode cX8_moveOne 161 = .ok (.if_icmp .eq 67, 3) := by decide +kernel
theorem dX8_moveOne_164 : decode cX8_moveOne 164 = .ok (.aload_n 0, 1) := by decide +kernel
theorem dX8_moveOne_165 : decode cX8_moveOne 165 = .ok (.getfield 116, 3) := by decide +kernel
theorem dX8_moveOne_168 : decode cX8_moveOne 168 = .ok (.iload 13, 2) := by decide +kernel
theorem dX8_moveOne_170 : decode cX8_moveOne 170 = .ok (.baload, 1) := by decide +kernel
theorem dX8_moveOne_171 : decode cX8_moveOne 171 = .ok (.ifCond .ne 57, 3) := by decide +kernel
theorem dX8_moveOne_174 : decode cX8_moveOne 174 = .ok (.aload_n 0, 1) := by decide +kernel
theorem dX8_moveOne_175 : decode cX8_moveOne 175 = .ok (.iload 8, 2) := by decide +kernel
theorem dX8_moveOne_177 : decode cX8_moveOne 177 = .ok (.iload 13, 2) := by decide +kernel
theorem dX8_moveOne_179 : decode cX8_moveOne 179 = .ok (.invokevirtual 225, 3) := by decide +kernel
theorem dX8_moveOne_182 : decode cX8_moveOne 182 = .ok (.ifCond .eq 46, 3) := by decide +kernel
theorem dX8_moveOne_185 : decode cX8_moveOne 185 = .ok (.iload 14, 2) := by decide +kernel
theorem dX8_moveOne_187 : decode cX8_moveOne 187 = .ok (.iconst (-1), 1) := by decide +kernel
theorem dX8_moveOne_188 : decode cX8_moveOne 188 = .ok (.if_icmp .eq 22, 3) := by decide +kernel
theorem dX8_moveOne_191 : decode cX8_moveOne 191 = .ok (.aload_n 0, 1) := by decide +kernel
theorem dX8_moveOne_192 : decode cX8_moveOne 192 = .ok (.iload 14, 2) := by decide +kernel
theorem dX8_moveOne_194 : decode cX8_moveOne 194 = .ok (.iload 5, 2) := by decide +kernel
theorem dX8_moveOne_196 : decode cX8_moveOne 196 = .ok (.iload 6, 2) := by decide +kernel
theorem dX8_moveOne_198 : decode cX8_moveOne 198 = .ok (.iload 7, 2) := by decide +kernel
theorem dX8_moveOne_200 : decode cX8_moveOne 200 = .ok (.invokevirtual 155, 3) := by decide +kernel
theorem dX8_moveOne_203 : decode cX8_moveOne 203 = .ok (.iconst (-1), 1) := by decide +kernel
theorem dX8_moveOne_204 : decode cX8_moveOne 204 = .ok (.if_icmp .eq 6, 3) := by decide +kernel
theorem dX8_moveOne_207 : decode cX8_moveOne 207 = .ok (.goto 21, 3) := by decide +kernel
theorem dX8_moveOne_210 : decode cX8_moveOne 210 = .ok (.aload_n 0, 1) := by decide +kernel
theorem dX8_moveOne_211 : decode cX8_moveOne 211 = .ok (.getfield 116, 3) := by decide +kernel
theorem dX8_moveOne_214 : decode cX8_moveOne 214 = .ok (.iload 13, 2) := by decide +kernel
theorem dX8_moveOne_216 : decode cX8_moveOne 216 = .ok (.iconst 1, 1) := by decide +kernel
theorem dX8_moveOne_217 : decode cX8_moveOne 217 = .ok (.bastore, 1) := by decide +kernel
theorem dX8_moveOne_218 : decode cX8_moveOne 218 = .ok (.aload_n 0, 1) := by decide +kernel
theorem dX8_moveOne_219 : decode cX8_moveOne 219 = .ok (.getfield 119, 3) := by decide +kernel
theorem dX8_moveOne_222 : decode cX8_moveOne 222 = .ok (.iload 8, 2) := by decide +kernel
theorem dX8_moveOne_224 : decode cX8_moveOne 224 = .ok (.iload 10, 2) := by decide +kernel
theorem dX8_moveOne_226 : decode cX8_moveOne 226 = .ok (.iastore, 1) := by decide +kernel
theorem dX8_moveOne_227 : decode cX8_moveOne 227 = .ok (.return_, 1) := by decide +kernel
theorem dX8_moveOne_228 : decode cX8_moveOne 228 = .ok (.iinc 10 1, 3) := by decide +kernel
theorem dX8_moveOne_231 : decode cX8_moveOne 231 = .ok (.goto (-177), 3) := by decide +kernel
theorem dX8_moveOne_234 : decode cX8_moveOne 234 = .ok (.return_, 1) := by decide +kernel
theorem dX8_compare_0 : decode cX8_compare 0 = .ok (.aload_n 0, 1) := by decide +kernel
theorem dX8_compare_1 : decode cX8_compare 1 = .ok (.iconst 0, 1) := by decide +kernel
theorem dX8_compare_2 : decode cX8_compare 2 = .ok (.putfield 218, 3) := by decide +kernel
theorem dX8_compare_5 : decode cX8_compare 5 = .ok (.aload_n 0, 1) := by decide +kernel
theorem dX8_compare_6 : decode cX8_compare 6 = .ok (.iload_n 1, 1) := by decide +kernel
theorem dX8_compare_7 : decode cX8_compare 7 = .ok (.iload_n 2, 1) := by decide +kernel
theorem dX8_compare_8 : decode cX8_compare 8 = .ok (.invokevirtual 228, 3) := by decide +kernel
theorem dX8_compare_11 : decode cX8_compare 11 = .ok (.iconst 0, 1) := by decide +kernel
theorem dX8_compare_12 : decode cX8_compare 12 = .ok (.istore_n 3, 1) := by decide +kernel
theorem dX8_compare_13 : decode cX8_compare 13 = .ok (.iload_n 3, 1) := by decide +kernel
theorem dX8_compare_14 : decode cX8_compare 14 = .ok (.bipush 16, 2) := by decide +kernel
theorem dX8_compare_16 : decode cX8_compare 16 = .ok (.if_icmp .ge 135, 3) := by decide +kernel
theorem dX8_compare_19 : decode cX8_compare 19 = .ok (.aload_n 0, 1) := by decide +kernel
theorem dX8_compare_20 : decode cX8_compare 20 = .ok (.iload_n 1, 1) := by decide +kernel
theorem dX8_compare_21 : decode cX8_compare 21 = .ok (.iload_n 3, 1) := by decide +kernel
theorem dX8_compare_22 : decode cX8_compare 22 = .ok (.invokevirtual 151, 3) := by decide +kernel
theorem dX8_compare_25 : decode cX8_compare 25 = .ok (.istore 4, 2) := by decide +kernel
theorem dX8_compare_27 : decode cX8_compare 27 = .ok (.aload_n 0, 1) := by decide +kernel
theorem dX8_compare_28 : decode cX8_compare 28 = .ok (.iload_n 2, 1) := by decide +kernel
theorem dX8_compare_29 : decode cX8_compare 29 = .ok (.iload_n 3, 1) := by decide +kernel
theorem dX8_compare_30 : decode cX8_compare 30 = .ok (.invokevirtual 151, 3) := by decide +kernel
theorem dX8_compare_33 : decode cX8_compare 33 = .ok (.istore 5, 2) := by decide +kernel
theorem dX8_compare_35 : decode cX8_compare 35 = .ok (.iload 4, 2) := by decide +kernel
theorem dX8_compare_37 : decode cX8_compare 37 = .ok (.iconst (-1), 1) := by decide +kernel
theorem dX8_compare_38 : decode cX8_compare 38 = .ok (.if_icmp .ne 12, 3) := by decide +kernel
theorem dX8_compare_41 : decode cX8_compare 41 = .ok (.iload 5, 2) := by decide +kernel
theorem dX8_compare_43 : decode cX8_compare 43 = .ok (.iconst (-1), 1) := by decide +kernel
theorem dX8_compare_44 : decode cX8_compare 44 = .ok (.if_icmp .ne 6, 3) := by decide +kernel
theorem dX8_compare_47 : decode cX8_compare 47 = .ok (.goto 98, 3) := by decide +kernel
theorem dX8_compare_50 : decode cX8_compare 50 = .ok (.iload 4, 2) := by decide +kernel
theorem dX8_compare_52 : decode cX8_compare 52 = .ok (.iconst (-1), 1) := by decide +kernel
theorem dX8_compare_53 : decode cX8_compare 53 = .ok (.if_icmp .ne 16, 3) := by decide +kernel
theorem dX8_compare_56 : decode cX8_compare 56 = .ok (.aload_n 0, 1) := by decide +kernel
theorem dX8_compare_57 : decode cX8_compare 57 = .ok (.iconst 2, 1) := by decide +kernel
theorem dX8_compare_58 : decode cX8_compare 58 = .ok (.iload_n 3, 1) := by decide +kernel
theorem dX8_compare_59 : decode cX8_compare 59 = .ok (.iconst (-1), 1) := by decide +kernel
theorem dX8_compare_60 : decode cX8_compare 60 = .ok (.iconst (-1), 1) := by decide +kernel
theorem dX8_compare_61 : decode cX8_compare 61 = .ok (.iconst (-1), 1) := by decide +kernel
theorem dX8_compare_62 : decode cX8_compare 62 = .ok (.iconst 0, 1) := by decide +kernel
theorem dX8_compare_63 : decode cX8_compare 63 = .ok (.invokevirtual 231, 3) := by decide +kernel
theorem dX8_compare_66 : decode cX8_compare 66 = .ok (.goto 31, 3) := by decide +kernel
theorem dX8_compare_69 : decode cX8_compare 69 = .ok (.iload 5, 2) := by decide +kernel
theorem dX8_compare_71 : decode cX8_compare 71 = .ok (.iconst (-1), 1) := by decide +kernel
theorem dX8_compare_72 : decode cX8_compare 72 = .ok (.if_icmp .ne 16, 3) := by decide +kernel
theorem dX8_compare_75 : decode cX8_compare 75 = .ok (.aload_n 0, 1) := by decide +kernel
theorem dX8_compare_76 : decode cX8_compare 76 = .ok (.iconst 1, 1) := by decide +kernel
theorem dX8_compare_77 : decode cX8_compare 77 = .ok (.iload_n 3, 1) := by decide +kernel
theorem dX8_compare_78 : decode cX8_compare 78 = .ok (.iconst (-1), 1) := by decide +kernel
theorem dX8_compare_79 : decode cX8_compare 79 = .ok (.iconst (-1), 1) := by decide +kernel
theorem dX8_compare_80 : decode cX8_compare 80 = .ok (.iconst (-1), 1) := by decide +kernel
theorem dX8_compare_81 : decode cX8_compare 81 = .ok (.iconst 0, 1) := by decide +kernel
theorem dX8_compare_82 : decode cX8_compare 82 = .ok (.invokevirtual 231, 3) := by decide +kernel
theorem dX8_compare_85 : decode cX8_compare 85 = .ok (.goto 12, 3) := by decide +kernel
theorem dX8_compare_88 : decode cX8_compare 88 = .ok (.aload_n 0, 1) := by decide +kernel
theorem dX8_compare_89 : decode cX8_compare 89 = .ok (.iload_n 3, 1) := by decide +kernel
theorem dX8_compare_90 : decode cX8_compare 90 = .ok (.iload 4, 2) := by decide +kernel
theorem dX8_compare_92 : decode cX8_compare 92 = .ok (.iload 5, 2) := by decide +kernel
theorem dX8_compare_94 : decode cX8_compare 94 = .ok (.invokevirtual 235, 3) := by decide +kernel
theorem dX8_compare_97 : decode cX8_compare 97 = .ok (.iconst 0, 1) := by decide +kernel
theorem dX8_compare_98 : decode cX8_compare 98 = .ok (.istore 6, 2) := by decide +kernel
theorem dX8_compare_100 : decode cX8_compare 100 = .ok (.iload 4, 2) := by decide +kernel
theorem dX8_compare_102 : decode cX8_compare 102 = .ok (.iconst (-1), 1) := by decide +kernel
theorem dX8_compare_103 : decode cX8_compare 103 = .ok (.if_icmp .eq 42, 3) := by decide +kernel
theorem dX8_compare_106 : decode cX8_compare 106 = .ok (.iload 6, 2) := by decide +kernel
theorem dX8_compare_108 : decode cX8_compare 108 = .ok (.sipush 128, 3) := by decide +kernel
theorem dX8_compare_111 : decode cX8_compare 111 = .ok (.if_icmp .ge 34, 3) := by decide +kernel
theorem dX8_compare_114 : decode cX8_compare 114 = .ok (.aload_n 0, 1) := by decide +kernel
theorem dX8_compare_115 : decode cX8_compare 115 = .ok (.iload_n 3, 1) := by decide +kernel
theorem dX8_compare_116 : decode cX8_compare 116 = .ok (.iload 4, 2) := by decide +kernel
theorem dX8_compare_118 : decode cX8_compare 118 = .ok (.iload 5, 2) := by decide +kernel
theorem dX8_compare_120 : decode cX8_compare 120 = .ok (.iload 6, 2) := by decide +kernel
theorem dX8_compare_122 : decode cX8_compare 122 = .ok (.bipush 64, 2) := by decide +kernel
theorem dX8_compare_124 : decode cX8_compare 124 = .ok (.idiv, 1) := by decide +kernel
theorem dX8_compare_125 : decode cX8_compare 125 = .ok (.iload 6, 2) := by decide +kernel
theorem dX8_compare_127 : decode cX8_compare 127 = .ok (.bipush 64, 2) := by decide +kernel
theorem dX8_compare_129 : decode cX8_compare 129 = .ok (.irem, 1) := by decide +kernel
theorem dX8_compare_130 : decode cX8_compare 130 = .ok (.iconst 4, 1) := by decide +kernel
theorem dX8_compare_131 : decode cX8_compare 131 = .ok (.idiv, 1) := by decide +kernel
theorem dX8_compare_132 : decode cX8_compare 132 = .ok (.iload 6, 2) := by decide +kernel
theorem dX8_compare_134 : decode cX8_compare 134 = .ok (.iconst 4, 1) := by decide +kernel
theorem dX8_compare_135 : decode cX8_compare 135 = .ok (.irem, 1) := by decide +kernel
theorem dX8_compare_136 : decode cX8_compare 136 = .ok (.invokevirtual 239, 3) := by decide +kernel
theorem dX8_compare_139 : decode cX8_compare 139 = .ok (.iinc 6 1, 3) := by decide +kernel
theorem dX8_compare_142 : decode cX8_compare 142 = .ok (.goto (-42), 3) := by decide +kernel
theorem dX8_compare_145 : decode cX8_compare 145 = .ok (.iinc 3 1, 3) := by decide +kernel
theorem dX8_compare_148 : decode cX8_compare 148 = .ok (.goto (-135), 3) := by decide +kernel
theorem dX8_compare_151 : decode cX8_compare 151 = .ok (.return_, 1) := by decide +kernel
theorem dX8_tellType_0 : decode cX8_tellType 0 = .ok (.aload_n 0, 1) := by decide +kernel
theorem dX8_tellType_1 : decode cX8_tellType 1 = .ok (.getfield 20, 3) := by decide +kernel
theorem dX8_tellType_4 : decode cX8_tellType 4 = .ok (.iload_n 2, 1) := by decide +kernel
theorem dX8_tellType_5 : decode cX8_tellType 5 = .ok (.baload, 1) := by decide +kernel
theorem dX8_tellType_6 : decode cX8_tellType 6 = .ok (.aload_n 0, 1) := by decide +kernel
theorem dX8_tellType_7 : decode cX8_tellType 7 = .ok (.getfield 20, 3) := by decide +kernel
theorem dX8_tellType_10 : decode cX8_tellType 10 = .ok (.iload_n 3, 1) := by decide +kernel
theorem dX8_tellType_11 : decode cX8_tellType 11 = .ok (.baload, 1) := by decide +kernel
theorem dX8_tellType_12 : decode cX8_tellType 12 = .ok (.if_icmp .eq 13, 3) := by decide +kernel
theorem dX8_tellType_15 : decode cX8_tellType 15 = .ok (.aload_n 0, 1) := by decide +kernel
theorem dX8_tellType_16 : decode cX8_tellType 16 = .ok (.iconst 3, 1) := by decide +kernel
theorem dX8_tellType_17 : decode cX8_tellType 17 = .ok (.iload_n 1, 1) := by decide +kernel
theorem dX8_tellType_18 : decode cX8_tellType 18 = .ok (.iconst (-1), 1) := by decide +kernel
theorem dX8_tellType_19 : decode cX8_tellType 19 = .ok (.iconst (-1), 1) := by decide +kernel
theorem dX8_tellType_20 : decode cX8_tellType 20 = .ok (.iconst (-1), 1) := by decide +kernel
theorem dX8_tellType_21 : decode cX8_tellType 21 = .ok (.iconst 0, 1) := by decide +kernel
theorem dX8_tellType_22 : decode cX8_tellType 22 = .ok (.invokevirtual 231, 3) := by decide +kernel
theorem dX8_tellType_25 : decode cX8_tellType 25 = .ok (.aload_n 0, 1) := by decide +kernel
theorem dX8_tellType_26 : decode cX8_tellType 26 = .ok (.getfield 23, 3) := by decide +kernel
theorem dX8_tellType_29 : decode cX8_tellType 29 = .ok (.iload_n 2, 1) := by decide +kernel
theorem dX8_tellType_30 : decode cX8_tellType 30 = .ok (.baload, 1) := by decide +kernel
theorem dX8_tellType_31 : decode cX8_tellType 31 = .ok (.aload_n 0, 1) := by decide +kernel
theorem dX8_tellType_32 : decode cX8_tellType 32 = .ok (.getfield 23, 3) := by decide +kernel
theorem dX8_tellType_35 : decode cX8_tellType 35 = .ok (.iload_n 3, 1) := by decide +kernel
theorem dX8_tellType_36 : decode cX8_tellType 36 = .ok (.baload, 1) := by decide +kernel
theorem dX8_tellType_37 : decode cX8_tellType 37 = .ok (.if_icmp .eq 13, 3) := by decide +kernel
theorem dX8_tellType_40 : decode cX8_tellType 40 = .ok (.aload_n 0, 1) := by decide +kernel
theorem dX8_tellType_41 : decode cX8_tellType 41 = .ok (.iconst 4, 1) := by decide +kernel
theorem dX8_tellType_42 : decode cX8_tellType 42 = .ok (.iload_n 1, 1) := by decide +kernel
theorem dX8_tellType_43 : decode cX8_tellType 43 = .ok (.iconst (-1), 1) := by decide +kernel
theorem dX8_tellType_44 : decode cX8_tellType 44 = .ok (.iconst (-1), 1) := by decide +kernel
theorem dX8_tellType_45 : decode cX8_tellType 45 = .ok (.iconst (-1), 1) := by decide +kernel
theorem dX8_tellType_46 : decode cX8_tellType 46 = .ok (.iconst 0, 1) := by decide +kernel
theorem dX8_tellType_47 : decode cX8_tellType 47 = .ok (.invokevirtual 231, 3) := by decide +kernel
theorem dX8_tellType_50 : decode cX8_tellType 50 = .ok (.aload_n 0, 1) := by decide +kernel
theorem dX8_tellType_51 : decode cX8_tellType 51 = .ok (.getfield 26, 3) := by decide +kernel
theorem dX8_tellType_54 : decode cX8_tellType 54 = .ok (.iload_n 2, 1) := by decide +kernel
theorem dX8_tellType_55 : decode cX8_tellType 55 = .ok (.iaload, 1) := by decide +kernel
theorem dX8_tellType_56 : decode cX8_tellType 56 = .ok (.aload_n 0, 1) := by decide +kernel
theorem dX8_tellType_57 : decode cX8_tellType 57 = .ok (.getfield 26, 3) := by decide +kernel
theorem dX8_tellType_60 : decode cX8_tellType 60 = .ok (.iload_n 3, 1) := by decide +kernel
theorem dX8_tellType_61 : decode cX8_tellType 61 = .ok (.iaload, 1) := by decide +kernel
theorem dX8_tellType_62 : decode cX8_tellType 62 = .ok (.if_icmp .ne 18, 3) := by decide +kernel
theorem dX8_tellType_65 : decode cX8_tellType 65 = .ok (.aload_n 0, 1) := by decide +kernel
theorem dX8_tellType_66 : decode cX8_tellType 66 = .ok (.getfield 29, 3) := by decide +kernel
theorem dX8_tellType_69 : decode cX8_tellType 69 = .ok (.iload_n 2, 1) := by decide +kernel
theorem dX8_tellType_70 : decode cX8_tellType 70 = .ok (.baload, 1) := by decide +kernel
theorem dX8_tellType_71 : decode cX8_tellType 71 = .ok (.aload_n 0, 1) := by decide +kernel
theorem dX8_tellType_72 : decode cX8_tellType 72 = .ok (.getfield 29, 3) := by decide +kernel
theorem dX8_tellType_75 : decode cX8_tellType 75 = .ok (.iload_n 3, 1) := by decide +kernel
theorem dX8_tellType_76 : decode cX8_tellType 76 = .ok (.baload, 1) := by decide +kernel
theorem dX8_tellType_77 : decode cX8_tellType 77 = .ok (.if_icmp .eq 13, 3) := by decide +kernel
theorem dX8_tellType_80 : decode cX8_tellType 80 = .ok (.aload_n 0, 1) := by decide +kernel
theorem dX8_tellType_81 : decode cX8_tellType 81 = .ok (.iconst 5, 1) := by decide +kernel
theorem dX8_tellType_82 : decode cX8_tellType 82 = .ok (.iload_n 1, 1) := by decide +kernel
theorem dX8_tellType_83 : decode cX8_tellType 83 = .ok (.iconst (-1), 1) := by decide +kernel
theorem dX8_tellType_84 : decode cX8_tellType 84 = .ok (.iconst (-1), 1) := by decide +kernel
theorem dX8_tellType_85 : decode cX8_tellType 85 = .ok (.iconst (-1), 1) := by decide +kernel
theorem dX8_tellType_86 : decode cX8_tellType 86 = .ok (.iconst 0, 1) := by decide +kernel
theorem dX8_tellType_87 : decode cX8_tellType 87 = .ok (.invokevirtual 231, 3) := by decide +kernel
theorem dX8_tellType_90 : decode cX8_tellType 90 = .ok (.aload_n 0, 1) := by decide +kernel
theorem dX8_tellType_91 : decode cX8_tellType 91 = .ok (.getfield 32, 3) := by decide +kernel
theorem dX8_tellType_94 : decode cX8_tellType 94 = .ok (.iload_n 2, 1) := by decide +kernel
theorem dX8_tellType_95 : decode cX8_tellType 95 = .ok (.iaload, 1) := by decide +kernel
theorem dX8_tellType_96 : decode cX8_tellType 96 = .ok (.aload_n 0, 1) := by decide +kernel
theorem dX8_tellType_97 : decode cX8_tellType 97 = .ok (.getfield 32, 3) := by decide +kernel
theorem dX8_tellType_100 : decode cX8_tellType 100 = .ok (.iload_n 3, 1) := by decide +kernel
theorem dX8_tellType_101 : decode cX8_tellType 101 = .ok (.iaload, 1) := by decide +kernel
theorem dX8_tellType_102 : decode cX8_tellType 102 = .ok (.if_icmp .eq 14, 3) := by decide +kernel
theorem dX8_tellType_105 : decode cX8_tellType 105 = .ok (.aload_n 0, 1) := by decide +kernel
theorem dX8_tellType_106 : decode cX8_tellType 106 = .ok (.bipush 6, 2) := by decide +kernel
theorem dX8_tellType_108 : decode cX8_tellType 108 = .ok (.iload_n 1, 1) := by decide +kernel
theorem dX8_tellType_109 : decode cX8_tellType 109 = .ok (.iconst (-1), 1) := by decide +kernel
theorem dX8_tellType_110 : decode cX8_tellType 110 = .ok (.iconst (-1), 1) := by decide +kernel
theorem dX8_tellType_111 : decode cX8_tellType 111 = .ok (.iconst (-1), 1) := by decide +kernel
theorem dX8_tellType_112 : decode cX8_tellType 112 = .ok (.iconst 0, 1) := by decide +kernel
theorem dX8_tellType_113 : decode cX8_tellType 113 = .ok (.invokevirtual 231, 3) := by decide +kernel
theorem dX8_tellType_116 : decode cX8_tellType 116 = .ok (.iconst 0, 1) := by decide +kernel
theorem dX8_tellType_117 : decode cX8_tellType 117 = .ok (.istore 4, 2) := by decide +kernel
theorem dX8_tellType_119 : decode cX8_tellType 119 = .ok (.iconst 0, 1) := by decide +kernel
theorem dX8_tellType_120 : decode cX8_tellType 120 = .ok (.istore 5, 2) := by decide +kernel
theorem dX8_tellType_122 : decode cX8_tellType 122 = .ok (.iconst 0, 1) := by decide +kernel
theorem dX8_tellType_123 : decode cX8_tellType 123 = .ok (.istore 6, 2) := by decide +kernel
theorem dX8_tellType_125 : decode cX8_tellType 125 = .ok (.iload 6, 2) := by decide +kernel
theorem dX8_tellType_127 : decode cX8_tellType 127 = .ok (.aload_n 0, 1) := by decide +kernel
theorem dX8_tellType_128 : decode cX8_tellType 128 = .ok (.getfield 35, 3) := by decide +kernel
theorem dX8_tellType_131 : decode cX8_tellType 131 = .ok (.iload_n 2, 1) := by decide +kernel
theorem dX8_tellType_132 : decode cX8_tellType 132 = .ok (.iaload, 1) := by decide +kernel
theorem dX8_tellType_133 : decode cX8_tellType 133 = .ok (.if_icmp .ge 27, 3) := by decide +kernel
theorem dX8_tellType_136 : decode cX8_tellType 136 = .ok (.iload 4, 2) := by decide +kernel
theorem dX8_tellType_138 : decode cX8_tellType 138 = .ok (.iconst 1, 1) := by decide +kernel
theorem dX8_tellType_139 : decode cX8_tellType 139 = .ok (.aload_n 0, 1) := by decide +kernel
theorem dX8_tellType_140 : decode cX8_tellType 140 = .ok (.getfield 38, 3) := by decide +kernel
theorem dX8_tellType_143 : decode cX8_tellType 143 = .ok (.iconst 3, 1) := by decide +kernel
theorem dX8_tellType_144 : decode cX8_tellType 144 = .ok (.iload_n 2, 1) := by decide +kernel
theorem dX8_tellType_145 : decode cX8_tellType 145 = .ok (.imul, 1) := by decide +kernel
theorem dX8_tellType_146 : decode cX8_tellType 146 = .ok (.iload 6, 2) := by decide +kernel
theorem dX8_tellType_148 : decode cX8_tellType 148 = .ok (.iadd, 1) := by decide +kernel
theorem dX8_tellType_149 : decode cX8_tellType 149 = .ok (.iaload, 1) := by decide +kernel
theorem dX8_tellType_150 : decode cX8_tellType 150 = .ok (.ishl, 1) := by decide +kernel
theorem dX8_tellType_151 : decode cX8_tellType 151 = .ok (.ior, 1) := by decide +kernel
theorem dX8_tellType_152 : decode cX8_tellType 152 = .ok (.istore 4, 2) := by decide +kernel
theorem dX8_tellType_154 : decode cX8_tellType 154 = .ok (.iinc 6 1, 3) := by decide +kernel
theorem dX8_tellType_157 : decode cX8_tellType 157 = .ok (.goto (-32), 3) := by decide +kernel
theorem dX8_tellType_160 : decode cX8_tellType 160 = .ok (.iconst 0, 1) := by decide +kernel
theorem dX8_tellType_161 : decode cX8_tellType 161 = .ok (.istore 6, 2) := by decide +kernel
theorem dX8_tellType_163 : decode cX8_tellType 163 = .ok (.iload 6, 2) := by decide +kernel
theorem dX8_tellType_165 : decode cX8_tellType 165 = .ok (.aload_n 0, 1) := by decide +kernel
theorem dX8_tellType_166 : decode cX8_tellType 166 = .ok (.getfield 35, 3) := by decide +kernel
theorem dX8_tellType_169 : decode cX8_tellType 169 = .ok (.iload_n 3, 1) := by decide +kernel
theorem dX8_tellType_170 : decode cX8_tellType 170 = .ok (.iaload, 1) := by decide +kernel
theorem dX8_tellType_171 : decode cX8_tellType 171 = .ok (.if_icmp .ge 27, 3) := by decide +kernel
theorem dX8_tellType_174 : decode cX8_tellType 174 = .ok (.iload 5, 2) := by decide +kernel
theorem dX8_tellType_176 : decode cX8_tellType 176 = .ok (.iconst 1, 1) := by decide +kernel
theorem dX8_tellType_177 : decode cX8_tellType 177 = .ok (.aload_n 0, 1) := by decide +kernel
theorem dX8_tellType_178 : decode cX8_tellType 178 = .ok (.getfield 38, 3) := by decide +kernel
theorem dX8_tellType_181 : decode cX8_tellType 181 = .ok (.iconst 3, 1) := by decide +kernel
theorem dX8_tellType_182 : decode cX8_tellType 182 = .ok (.iload_n 3, 1) := by decide +kernel
theorem dX8_tellType_183 : decode cX8_tellType 183 = .ok (.imul, 1) := by decide +kernel
theorem dX8_tellType_184 : decode cX8_tellType 184 = .ok (.iload 6, 2) := by decide +kernel
theorem dX8_tellType_186 : decode cX8_tellType 186 = .ok (.iadd, 1) := by decide +kernel
theorem dX8_tellType_187 : decode cX8_tellType 187 = .ok (.iaload, 1) := by decide +kernel
theorem dX8_tellType_188 : decode cX8_tellType 188 = .ok (.ishl, 1) := by decide +kernel
theorem dX8_tellType_189 : decode cX8_tellType 189 = .ok (.ior, 1) := by decide +kernel
theorem dX8_tellType_190 : decode cX8_tellType 190 = .ok (.istore 5, 2) := by decide +kernel
theorem dX8_tellType_192 : decode cX8_tellType 192 = .ok (.iinc 6 1, 3) := by decide +kernel
theorem dX8_tellType_195 : decode cX8_tellType 195 = .ok (.goto (-32), 3) := by decide +kernel
theorem dX8_tellType_198 : decode cX8_tellType 198 = .ok (.iload 4, 2) := by decide +kernel
theorem dX8_tellType_200 : decode cX8_tellType 200 = .ok (.iload 5, 2) := by decide +kernel
theorem dX8_tellType_202 : decode cX8_tellType 202 = .ok (.if_icmp .eq 14, 3) := by decide +kernel
theorem dX8_tellType_205 : decode cX8_tellType 205 = .ok (.aload_n 0, 1) := by decide +kernel
theorem dX8_tellType_206 : decode cX8_tellType 206 = .ok (.bipush 7, 2) := by decide +kernel
theorem dX8_tellType_208 : decode cX8_tellType 208 = .ok (.iload_n 1, 1) := by decide +kernel
theorem dX8_tellType_209 : decode cX8_tellType 209 = .ok (.iconst (-1), 1) := by decide +kernel
theorem dX8_tellType_210 : decode cX8_tellType 210 = .ok (.iconst (-1), 1) := by decide +kernel
theorem dX8_tellType_211 : decode cX8_tellType 211 = .ok (.iconst (-1), 1) := by decide +kernel
theorem dX8_tellType_212 : decode cX8_tellType 212 = .ok (.iconst 0, 1) := by decide +kernel
theorem dX8_tellType_213 : decode cX8_tellType 213 = .ok (.invokevirtual 231, 3) := by decide +kernel
theorem dX8_tellType_216 : decode cX8_tellType 216 = .ok (.return_, 1) := by decide +kernel
theorem dX8_tellMember_0 : decode cX8_tellMember 0 = .ok (.aload_n 0, 1) := by decide +kernel
theorem dX8_tellMember_1 : decode cX8_tellMember 1 = .ok (.iload_n 2, 1) := by decide +kernel
theorem dX8_tellMember_2 : decode cX8_tellMember 2 = .ok (.iload 4, 2) := by decide +kernel
theorem dX8_tellMember_4 : decode cX8_tellMember 4 = .ok (.iload 5, 2) := by decide +kernel
theorem dX8_tellMember_6 : decode cX8_tellMember 6 = .ok (.iload 6, 2) := by decide +kernel
theorem dX8_tellMember_8 : decode cX8_tellMember 8 = .ok (.invokevirtual 155, 3) := by decide +kernel
theorem dX8_tellMember_11 : decode cX8_tellMember 11 = .ok (.istore 7, 2) := by decide +kernel
theorem dX8_tellMember_13 : decode cX8_tellMember 13 = .ok (.iload_n 3, 1) := by decide +kernel
theorem dX8_tellMember_14 : decode cX8_tellMember 14 = .ok (.iconst (-1), 1) := by decide +kernel
theorem dX8_tellMember_15 : decode cX8_tellMember 15 = .ok (.if_icmp .ne 7, 3) := by decide +kernel
theorem dX8_tellMember_18 : decode cX8_tellMember 18 = .ok (.iconst (-1), 1) := by decide +kernel
theorem dX8_tellMember_19 : decode cX8_tellMember 19 = .ok (.goto 14, 3) := by decide +kernel
theorem dX8_tellMember_22 : decode cX8_tellMember 22 = .ok (.aload_n 0, 1) := by decide +kernel
theorem dX8_tellMember_23 : decode cX8_tellMember 23 = .ok (.iload_n 3, 1) := by decide +kernel
theorem dX8_tellMember_24 : decode cX8_tellMember 24 = .ok (.iload 4, 2) := by decide +kernel
theorem dX8_tellMember_26 : decode cX8_tellMember 26 = .ok (.iload 5, 2) := by decide +kernel
theorem dX8_tellMember_28 : decode cX8_tellMember 28 = .ok (.iload 6, 2) := by decide +kernel
theorem dX8_tellMember_30 : decode cX8_tellMember 30 = .ok (.invokevirtual 155, 3) := by decide +kernel
theorem dX8_tellMember_33 : decode cX8_tellMember 33 = .ok (.istore 8, 2) := by decide +kernel
theorem dX8_tellMember_35 : decode cX8_tellMember 35 = .ok (.iload 7, 2) := by decide +kernel
theorem dX8_tellMember_37 : decode cX8_tellMember 37 = .ok (.iconst (-1), 1) := by decide +kernel
theorem dX8_tellMember_38 : decode cX8_tellMember 38 = .ok (.if_icmp .eq 43, 3) := by decide +kernel
theorem dX8_tellMember_41 : decode cX8_tellMember 41 = .ok (.iload 8, 2) := by decide +kernel
theorem dX8_tellMember_43 : decode cX8_tellMember 43 = .ok (.iconst (-1), 1) := by decide +kernel
theorem dX8_tellMember_44 : decode cX8_tellMember 44 = .ok (.if_icmp .ne 37, 3) := by decide +kernel
theorem dX8_tellMember_47 : decode cX8_tellMember 47 = .ok (.aload_n 0, 1) := by decide +kernel
theorem dX8_tellMember_48 : decode cX8_tellMember 48 = .ok (.getfield 119, 3) := by decide +kernel
theorem dX8_tellMember_51 : decode cX8_tellMember 51 = .ok (.iload 7, 2) := by decide +kernel
theorem dX8_tellMember_53 : decode cX8_tellMember 53 = .ok (.iaload, 1) := by decide +kernel
theorem dX8_tellMember_54 : decode cX8_tellMember 54 = .ok (.iconst (-1), 1) := by decide +kernel
theorem dX8_tellMember_55 : decode cX8_tellMember 55 = .ok (.if_icmp .eq 26, 3) := by decide +kernel
theorem dX8_tellMember_58 : decode cX8_tellMember 58 = .ok (.aload_n 0, 1) := by decide +kernel
theorem dX8_tellMember_59 : decode cX8_tellMember 59 = .ok (.bipush 10, 2) := by decide +kernel
theorem dX8_tellMember_61 : decode cX8_tellMember 61 = .ok (.iload_n 1, 1) := by decide +kernel
theorem dX8_tellMember_62 : decode cX8_tellMember 62 = .ok (.iload 5, 2) := by decide +kernel
theorem dX8_tellMember_64 : decode cX8_tellMember 64 = .ok (.iload 6, 2) := by decide +kernel
theorem dX8_tellMember_66 : decode cX8_tellMember 66 = .ok (.aload_n 0, 1) := by decide +kernel
theorem dX8_tellMember_67 : decode cX8_tellMember 67 = .ok (.getfield 119, 3) := by decide +kernel
theorem dX8_tellMember_70 : decode cX8_tellMember 70 = .ok (.iload 7, 2) := by decide +kernel
theorem dX8_tellMember_72 : decode cX8_tellMember 72 = .ok (.iaload, 1) := by decide +kernel
theorem dX8_tellMember_73 : decode cX8_tellMember 73 = .ok (.iload 4, 2) := by decide +kernel
theorem dX8_tellMember_75 : decode cX8_tellMember 75 = .ok (.invokevirtual 231, 3) := by decide +kernel
theorem dX8_tellMember_78 : decode cX8_tellMember 78 = .ok (.goto 73, 3) := by decide +kernel
theorem dX8_tellMember_81 : decode cX8_tellMember 81 = .ok (.iload 7, 2) := by decide +kernel
theorem dX8_tellMember_83 : decode cX8_tellMember 83 = .ok (.iconst (-1), 1) := by decide +kernel
theorem dX8_tellMember_84 : decode cX8_tellMember 84 = .ok (.if_icmp .eq 31, 3) := by decide +kernel
theorem dX8_tellMember_87 : decode cX8_tellMember 87 = .ok (.iload 8, 2) := by decide +kernel
theorem dX8_tellMember_89 : decode cX8_tellMember 89 = .ok (.iconst (-1), 1) := by decide +kernel
theorem dX8_tellMember_90 : decode cX8_tellMember 90 = .ok (.if_icmp .ne 25, 3) := by decide +kernel
theorem dX8_tellMember_93 : decode cX8_tellMember 93 = .ok (.iload_n 3, 1) := by decide +kernel
theorem dX8_tellMember_94 : decode cX8_tellMember 94 = .ok (.iconst (-1), 1) := by decide +kernel
theorem dX8_tellMember_95 : decode cX8_tellMember 95 = .ok (.if_icmp .eq 20, 3) := by decide +kernel
theorem dX8_tellMember_98 : decode cX8_tellMember 98 = .ok (.aload_n 0, 1) := by decide +kernel
theorem dX8_tellMember_99 : decode cX8_tellMember 99 = .ok (.bipush 8, 2) := by decide +kernel
theorem dX8_tellMember_101 : decode cX8_tellMember 101 = .ok (.iload_n 1, 1) := by decide +kernel
theorem dX8_tellMember_102 : decode cX8_tellMember 102 = .ok (.iload 5, 2) := by decide +kernel
theorem dX8_tellMember_104 : decode cX8_tellMember 104 = .ok (.iload 6, 2) := by decide +kernel
theorem dX8_tellMember_106 : decode cX8_tellMember 106 = .ok (.iconst (-1), 1) := by decide +kernel
theorem dX8_tellMember_107 : decode cX8_tellMember 107 = .ok (.iload 4, 2) := by decide +kernel
theorem dX8_tellMember_109 : decode cX8_tellMember 109 = .ok (.invokevirtual 231, 3) := by decide +kernel
theorem dX8_tellMember_112 : decode cX8_tellMember 112 = .ok (.goto 39, 3) := by decide +kernel
theorem dX8_tellMember_115 : decode cX8_tellMember 115 = .ok (.iload 7, 2) := by decide +kernel
theorem dX8_tellMember_117 : decode cX8_tellMember 117 = .ok (.iconst (-1), 1) := by decide +kernel
theorem dX8_tellMember_118 : decode cX8_tellMember 118 = .ok (.if_icmp .ne 33, 3) := by decide +kernel
theorem dX8_tellMember_121 : decode cX8_tellMember 121 = .ok (.iload 8, 2) := by decide +kernel
theorem dX8_tellMember_123 : decode cX8_tellMember 123 = .ok (.iconst (-1), 1) := by decide +kernel
theorem dX8_tellMember_124 : decode cX8_tellMember 124 = .ok (.if_icmp .eq 27, 3) := by decide +kernel
theorem dX8_tellMember_127 : decode cX8_tellMember 127 = .ok (.aload_n 0, 1) := by decide +kernel
theorem dX8_tellMember_128 : decode cX8_tellMember 128 = .ok (.getfield 116, 3) := by decide +kernel
theorem dX8_tellMember_131 : decode cX8_tellMember 131 = .ok (.iload 8, 2) := by decide +kernel
theorem dX8_tellMember_133 : decode cX8_tellMember 133 = .ok (.baload, 1) := by decide +kernel
theorem dX8_tellMember_134 : decode cX8_tellMember 134 = .ok (.ifCond .ne 17, 3) := by decide +kernel
theorem dX8_tellMember_137 : decode cX8_tellMember 137 = .ok (.aload_n 0, 1) := by decide +kernel
theorem dX8_tellMember_138 : decode cX8_tellMember 138 = .ok (.bipush 9, 2) := by decide +kernel
theorem dX8_tellMember_140 : decode cX8_tellMember 140 = .ok (.iload_n 1, 1) := by decide +kernel
theorem dX8_tellMember_141 : decode cX8_tellMember 141 = .ok (.iload 5, 2) := by decide +kernel
theorem dX8_tellMember_143 : decode cX8_tellMember 143 = .ok (.iload 6, 2) := by decide +kernel
theorem dX8_tellMember_145 : decode cX8_tellMember 145 = .ok (.iconst (-1), 1) := by decide +kernel
theorem dX8_tellMember_146 : decode cX8_tellMember 146 = .ok (.iload 4, 2) := by decide +kernel
theorem dX8_tellMember_148 : decode cX8_tellMember 148 = .ok (.invokevirtual 231, 3) := by decide +kernel
theorem dX8_tellMember_151 : decode cX8_tellMember 151 = .ok (.iload 7, 2) := by decide +kernel
theorem dX8_tellMember_153 : decode cX8_tellMember 153 = .ok (.iconst (-1), 1) := by decide +kernel
theorem dX8_tellMember_154 : decode cX8_tellMember 154 = .ok (.if_icmp .eq 9, 3) := by decide +kernel
theorem dX8_tellMember_157 : decode cX8_tellMember 157 = .ok (.iload 8, 2) := by decide +kernel
theorem dX8_tellMember_159 : decode cX8_tellMember 159 = .ok (.iconst (-1), 1) := by decide +kernel
theorem dX8_tellMember_160 : decode cX8_tellMember 160 = .ok (.if_icmp .ne 4, 3) := by decide +kernel
theorem dX8_tellMember_163 : decode cX8_tellMember 163 = .ok (.return_, 1) := by decide +kernel
theorem dX8_tellMember_164 : decode cX8_tellMember 164 = .ok (.aload_n 0, 1) := by decide +kernel
theorem dX8_tellMember_165 : decode cX8_tellMember 165 = .ok (.getfield 53, 3) := by decide +kernel
theorem dX8_tellMember_168 : decode cX8_tellMember 168 = .ok (.iload 7, 2) := by decide +kernel
theorem dX8_tellMember_170 : decode cX8_tellMember 170 = .ok (.iaload, 1) := by decide +kernel
theorem dX8_tellMember_171 : decode cX8_tellMember 171 = .ok (.aload_n 0, 1) := by decide +kernel
theorem dX8_tellMember_172 : decode cX8_tellMember 172 = .ok (.getfield 53, 3) := by decide +kernel
theorem dX8_tellMember_175 : decode cX8_tellMember 175 = .ok (.iload 8, 2) := by decide +kernel
theorem dX8_tellMember_177 : decode cX8_tellMember 177 = .ok (.iaload, 1) := by decide +kernel
theorem dX8_tellMember_178 : decode cX8_tellMember 178 = .ok (.if_icmp .eq 17, 3) := by decide +kernel
theorem dX8_tellMember_181 : decode cX8_tellMember 181 = .ok (.aload_n 0, 1) := by decide +kernel
theorem dX8_tellMember_182 : decode cX8_tellMember 182 = .ok (.bipush 11, 2) := by decide +kernel
theorem dX8_tellMember_184 : decode cX8_tellMember 184 = .ok (.iload_n 1, 1) := by decide +kernel
theorem dX8_tellMember_185 : decode cX8_tellMember 185 = .ok (.iload 5, 2) := by decide +kernel
theorem dX8_tellMember_187 : decode cX8_tellMember 187 = .ok (.iload 6, 2) := by decide +kernel
theorem dX8_tellMember_189 : decode cX8_tellMember 189 = .ok (.iconst (-1), 1) := by decide +kernel
theorem dX8_tellMember_190 : decode cX8_tellMember 190 = .ok (.iload 4, 2) := by decide +kernel
theorem dX8_tellMember_192 : decode cX8_tellMember 192 = .ok (.invokevirtual 231, 3) := by decide +kernel
theorem dX8_tellMember_195 : decode cX8_tellMember 195 = .ok (.aload_n 0, 1) := by decide +kernel
theorem dX8_tellMember_196 : decode cX8_tellMember 196 = .ok (.getfield 56, 3) := by decide +kernel
theorem dX8_tellMember_199 : decode cX8_tellMember 199 = .ok (.iload 7, 2) := by decide +kernel
theorem dX8_tellMember_201 : decode cX8_tellMember 201 = .ok (.baload, 1) := by decide +kernel
theorem dX8_tellMember_202 : decode cX8_tellMember 202 = .ok (.aload_n 0, 1) := by decide +kernel
theorem dX8_tellMember_203 : decode cX8_tellMember 203 = .ok (.getfield 56, 3) := by decide +kernel
theorem dX8_tellMember_206 : decode cX8_tellMember 206 = .ok (.iload 8, 2) := by decide +kernel
theorem dX8_tellMember_208 : decode cX8_tellMember 208 = .ok (.baload, 1) := by decide +kernel
theorem dX8_tellMember_209 : decode cX8_tellMember 209 = .ok (.if_icmp .eq 17, 3) := by decide +kernel
theorem dX8_tellMember_212 : decode cX8_tellMember 212 = .ok (.aload_n 0, 1) := by decide +kernel
theorem dX8_tellMember_213 : decode cX8_tellMember 213 = .ok (.bipush 12, 2) := by decide +kernel
theorem dX8_tellMember_215 : decode cX8_tellMember 215 = .ok (.iload_n 1, 1) := by decide +kernel
theorem dX8_tellMember_216 : decode cX8_tellMember 216 = .ok (.iload 5, 2) := by decide +kernel
theorem dX8_tellMember_218 : decode cX8_tellMember 218 = .ok (.iload 6, 2) := by decide +kernel
theorem dX8_tellMember_220 : decode cX8_tellMember 220 = .ok (.iconst (-1), 1) := by decide +kernel
theorem dX8_tellMember_221 : decode cX8_tellMember 221 = .ok (.iload 4, 2) := by decide +kernel
theorem dX8_tellMember_223 : decode cX8_tellMember 223 = .ok (.invokevirtual 231, 3) := by decide +kernel
theorem dX8_tellMember_226 : decode cX8_tellMember 226 = .ok (.aload_n 0, 1) := by decide +kernel
theorem dX8_tellMember_227 : decode cX8_tellMember 227 = .ok (.getfield 59, 3) := by decide +kernel
theorem dX8_tellMember_230 : decode cX8_tellMember 230 = .ok (.iload 7, 2) := by decide +kernel
theorem dX8_tellMember_232 : decode cX8_tellMember 232 = .ok (.iaload, 1) := by decide +kernel
theorem dX8_tellMember_233 : decode cX8_tellMember 233 = .ok (.aload_n 0, 1) := by decide +kernel
theorem dX8_tellMember_234 : decode cX8_tellMember 234 = .ok (.getfield 59, 3) := by decide +kernel
theorem dX8_tellMember_237 : decode cX8_tellMember 237 = .ok (.iload 8, 2) := by decide +kernel
theorem dX8_tellMember_239 : decode cX8_tellMember 239 = .ok (.iaload, 1) := by decide +kernel
theorem dX8_tellMember_240 : decode cX8_tellMember 240 = .ok (.if_icmp .ne 20, 3) := by decide +kernel
theorem dX8_tellMember_243 : decode cX8_tellMember 243 = .ok (.aload_n 0, 1) := by decide +kernel
theorem dX8_tellMember_244 : decode cX8_tellMember 244 = .ok (.getfield 62, 3) := by decide +kernel
theorem dX8_tellMember_247 : decode cX8_tellMember 247 = .ok (.iload 7, 2) := by decide +kernel
theorem dX8_tellMember_249 : decode cX8_tellMember 249 = .ok (.baload, 1) := by decide +kernel
theorem dX8_tellMember_250 : decode cX8_tellMember 250 = .ok (.aload_n 0, 1) := by decide +kernel
theorem dX8_tellMember_251 : decode cX8_tellMember 251 = .ok (.getfield 62, 3) := by decide +kernel
theorem dX8_tellMember_254 : decode cX8_tellMember 254 = .ok (.iload 8, 2) := by decide +kernel
theorem dX8_tellMember_256 : decode cX8_tellMember 256 = .ok (.baload, 1) := by decide +kernel
theorem dX8_tellMember_257 : decode cX8_tellMember 257 = .ok (.if_icmp .eq 17, 3) := by decide +kernel
theorem dX8_tellMember_260 : decode cX8_tellMember 260 = .ok (.aload_n 0, 1) := by decide +kernel
theorem dX8_tellMember_261 : decode cX8_tellMember 261 = .ok (.bipush 13, 2) := by decide +kernel
theorem dX8_tellMember_263 : decode cX8_tellMember 263 = .ok (.iload_n 1, 1) := by decide +kernel
theorem dX8_tellMember_264 : decode cX8_tellMember 264 = .ok (.iload 5, 2) := by decide +kernel
theorem dX8_tellMember_266 : decode cX8_tellMember 266 = .ok (.iload 6, 2) := by decide +kernel
theorem dX8_tellMember_268 : decode cX8_tellMember 268 = .ok (.iconst (-1), 1) := by decide +kernel
theorem dX8_tellMember_269 : decode cX8_tellMember 269 = .ok (.iload 4, 2) := by decide +kernel
theorem dX8_tellMember_271 : decode cX8_tellMember 271 = .ok (.invokevirtual 231, 3) := by decide +kernel
theorem dX8_tellMember_274 : decode cX8_tellMember 274 = .ok (.return_, 1) := by decide +kernel
theorem dX8_differ_0 : decode cX8_differ 0 = .ok (.aload_n 0, 1) := by decide +kernel
theorem dX8_differ_1 : decode cX8_differ 1 = .ok (.aload_n 0, 1) := by decide +kernel
theorem dX8_differ_2 : decode cX8_differ 2 = .ok (.iload_n 1, 1) := by decide +kernel
theorem dX8_differ_3 : decode cX8_differ 3 = .ok (.iload_n 2, 1) := by decide +kernel
theorem dX8_differ_4 : decode cX8_differ 4 = .ok (.invokevirtual 242, 3) := by decide +kernel
theorem dX8_differ_7 : decode cX8_differ 7 = .ok (.putfield 122, 3) := by decide +kernel
theorem dX8_differ_10 : decode cX8_differ 10 = .ok (.aload_n 0, 1) := by decide +kernel
theorem dX8_differ_11 : decode cX8_differ 11 = .ok (.getfield 122, 3) := by decide +kernel
theorem dX8_differ_14 : decode cX8_differ 14 = .ok (.ifCond .le 5, 3) := by decide +kernel
theorem dX8_differ_17 : decode cX8_differ 17 = .ok (.iconst 0, 1) := by decide +kernel
theorem dX8_differ_18 : decode cX8_differ 18 = .ok (.ireturn, 1) := by decide +kernel
theorem dX8_differ_19 : decode cX8_differ 19 = .ok (.aload_n 0, 1) := by decide +kernel
theorem dX8_differ_20 : decode cX8_differ 20 = .ok (.iload_n 1, 1) := by decide +kernel
theorem dX8_differ_21 : decode cX8_differ 21 = .ok (.iload_n 2, 1) := by decide +kernel
theorem dX8_differ_22 : decode cX8_differ 22 = .ok (.invokevirtual 245, 3) := by decide +kernel
theorem dX8_differ_25 : decode cX8_differ 25 = .ok (.aload_n 0, 1) := by decide +kernel
theorem dX8_differ_26 : decode cX8_differ 26 = .ok (.getfield 218, 3) := by decide +kernel
theorem dX8_differ_29 : decode cX8_differ 29 = .ok (.ireturn, 1) := by decide +kernel
theorem dX8_difference_0 : decode cX8_difference 0 = .ok (.aload_n 0, 1) := by decide +kernel
theorem dX8_difference_1 : decode cX8_difference 1 = .ok (.aload_n 0, 1) := by decide +kernel
theorem dX8_difference_2 : decode cX8_difference 2 = .ok (.iload_n 1, 1) := by decide +kernel
theorem dX8_difference_3 : decode cX8_difference 3 = .ok (.iload_n 2, 1) := by decide +kernel
theorem dX8_difference_4 : decode cX8_difference 4 = .ok (.invokevirtual 242, 3) := by decide +kernel
theorem dX8_difference_7 : decode cX8_difference 7 = .ok (.putfield 122, 3) := by decide +kernel
theorem dX8_difference_10 : decode cX8_difference 10 = .ok (.aload_n 0, 1) := by decide +kernel
theorem dX8_difference_11 : decode cX8_difference 11 = .ok (.getfield 122, 3) := by decide +kernel
theorem dX8_difference_14 : decode cX8_difference 14 = .ok (.ifCond .le 5, 3) := by decide +kernel
theorem dX8_difference_17 : decode cX8_difference 17 = .ok (.iconst 0, 1) := by decide +kernel
theorem dX8_difference_18 : decode cX8_difference 18 = .ok (.ireturn, 1) := by decide +kernel
theorem dX8_difference_19 : decode cX8_difference 19 = .ok (.aload_n 0, 1) := by decide +kernel
theorem dX8_difference_20 : decode cX8_difference 20 = .ok (.iload_n 1, 1) := by decide +kernel
theorem dX8_difference_21 : decode cX8_difference 21 = .ok (.iload_n 2, 1) := by decide +kernel
theorem dX8_difference_22 : decode cX8_difference 22 = .ok (.invokevirtual 245, 3) := by decide +kernel
theorem dX8_difference_25 : decode cX8_difference 25 = .ok (.aload_n 0, 1) := by decide +kernel
theorem dX8_difference_26 : decode cX8_difference 26 = .ok (.iload_n 3, 1) := by decide +kernel
theorem dX8_difference_27 : decode cX8_difference 27 = .ok (.ifCond .lt 22, 3) := by decide +kernel
theorem dX8_difference_30 : decode cX8_difference 30 = .ok (.iload_n 3, 1) := by decide +kernel
theorem dX8_difference_31 : decode cX8_difference 31 = .ok (.aload_n 0, 1) := by decide +kernel
theorem dX8_difference_32 : decode cX8_difference 32 = .ok (.getfield 218, 3) := by decide +kernel
theorem dX8_difference_35 : decode cX8_difference 35 = .ok (.if_icmp .ge 14, 3) := by decide +kernel
theorem dX8_difference_38 : decode cX8_difference 38 = .ok (.iload 4, 2) := by decide +kernel
theorem dX8_difference_40 : decode cX8_difference 40 = .ok (.ifCond .lt 9, 3) := by decide +kernel
theorem dX8_difference_43 : decode cX8_difference 43 = .ok (.iload 4, 2) := by decide +kernel
theorem dX8_difference_45 : decode cX8_difference 45 = .ok (.iconst 5, 1) := by decide +kernel
theorem dX8_difference_46 : decode cX8_difference 46 = .ok (.if_icmp .le 7, 3) := by decide +kernel
theorem dX8_difference_49 : decode cX8_difference 49 = .ok (.iconst 3, 1) := by decide +kernel
theorem dX8_difference_50 : decode cX8_difference 50 = .ok (.goto 4, 3) := by decide +kernel
theorem dX8_difference_53 : decode cX8_difference 53 = .ok (.iconst 0, 1) := by decide +kernel
theorem dX8_difference_54 : decode cX8_difference 54 = .ok (.putfield 122, 3) := by decide +kernel
theorem dX8_difference_57 : decode cX8_difference 57 = .ok (.aload_n 0, 1) := by decide +kernel
theorem dX8_difference_58 : decode cX8_difference 58 = .ok (.getfield 122, 3) := by decide +kernel
theorem dX8_difference_61 : decode cX8_difference 61 = .ok (.ifCond .le 5, 3) := by decide +kernel
theorem dX8_difference_64 : decode cX8_difference 64 = .ok (.iconst 0, 1) := by decide +kernel
theorem dX8_difference_65 : decode cX8_difference 65 = .ok (.ireturn, 1) := by decide +kernel
theorem dX8_difference_66 : decode cX8_difference 66 = .ok (.iload 4, 2) := by decide +kernel
theorem dX8_difference_68 : decode cX8_difference 68 = .ok (.tableswitch 71 0 4 #[36, 43, 50, 57, 64], 36) := by decide +kernel
theorem dX8_difference_104 : decode cX8_difference 104 = .ok (.aload_n 0, 1) := by decide +kernel
theorem dX8_difference_105 : decode cX8_difference 105 = .ok (.getfield 98, 3) := by decide +kernel
theorem dX8_difference_108 : decode cX8_difference 108 = .ok (.iload_n 3, 1) := by decide +kernel
theorem dX8_difference_109 : decode cX8_difference 109 = .ok (.iaload, 1) := by decide +kernel
theorem dX8_difference_110 : decode cX8_difference 110 = .ok (.ireturn, 1) := by decide +kernel
theorem dX8_difference_111 : decode cX8_difference 111 = .ok (.aload_n 0, 1) := by decide +kernel
theorem dX8_difference_112 : decode cX8_difference 112 = .ok (.getfield 101, 3) := by decide +kernel
theorem dX8_difference_115 : decode cX8_difference 115 = .ok (.iload_n 3, 1) := by decide +kernel
theorem dX8_difference_116 : decode cX8_difference 116 = .ok (.iaload, 1) := by decide +kernel
theorem dX8_difference_117 : decode cX8_difference 117 = .ok (.ireturn, 1) := by decide +kernel
theorem dX8_difference_118 : decode cX8_difference 118 = .ok (.aload_n 0, 1) := by decide +kernel
theorem dX8_difference_119 : decode cX8_difference 119 = .ok (.getfield 104, 3) := by decide +kernel
theorem dX8_difference_122 : decode cX8_difference 122 = .ok (.iload_n 3, 1) := by decide +kernel
theorem dX8_difference_123 : decode cX8_difference 123 = .ok (.iaload, 1) := by decide +kernel
theorem dX8_difference_124 : decode cX8_difference 124 = .ok (.ireturn, 1) := by decide +kernel
theorem dX8_difference_125 : decode cX8_difference 125 = .ok (.aload_n 0, 1) := by decide +kernel
theorem dX8_difference_126 : decode cX8_difference 126 = .ok (.getfield 107, 3) := by decide +kernel
theorem dX8_difference_129 : decode cX8_difference 129 = .ok (.iload_n 3, 1) := by decide +kernel
theorem dX8_difference_130 : decode cX8_difference 130 = .ok (.iaload, 1) := by decide +kernel
theorem dX8_difference_131 : decode cX8_difference 131 = .ok (.ireturn, 1) := by decide +kernel
theorem dX8_difference_132 : decode cX8_difference 132 = .ok (.aload_n 0, 1) := by decide +kernel
theorem dX8_difference_133 : decode cX8_difference 133 = .ok (.getfield 110, 3) := by decide +kernel
theorem dX8_difference_136 : decode cX8_difference 136 = .ok (.iload_n 3, 1) := by decide +kernel
theorem dX8_difference_137 : decode cX8_difference 137 = .ok (.iaload, 1) := by decide +kernel
theorem dX8_difference_138 : decode cX8_difference 138 = .ok (.ireturn, 1) := by decide +kernel
theorem dX8_difference_139 : decode cX8_difference 139 = .ok (.aload_n 0, 1) := by decide +kernel
theorem dX8_difference_140 : decode cX8_difference 140 = .ok (.getfield 113, 3) := by decide +kernel
theorem dX8_difference_143 : decode cX8_difference 143 = .ok (.iload_n 3, 1) := by decide +kernel
theorem dX8_difference_144 : decode cX8_difference 144 = .ok (.iaload, 1) := by decide +kernel
theorem dX8_difference_145 : decode cX8_difference 145 = .ok (.ireturn, 1) := by decide +kernel
theorem dX8_breaks_0 : decode cX8_breaks 0 = .ok (.aload_n 0, 1) := by decide +kernel
theorem dX8_breaks_1 : decode cX8_breaks 1 = .ok (.getfield 68, 3) := by decide +kernel
theorem dX8_breaks_4 : decode cX8_breaks 4 = .ok (.bipush 12, 2) := by decide +kernel
theorem dX8_breaks_6 : decode cX8_breaks 6 = .ok (.iaload, 1) := by decide +kernel
theorem dX8_breaks_7 : decode cX8_breaks 7 = .ok (.istore 7, 2) := by decide +kernel
theorem dX8_breaks_9 : decode cX8_breaks 9 = .ok (.aload_n 0, 1) := by decide +kernel
theorem dX8_breaks_10 : decode cX8_breaks 10 = .ok (.bipush 12, 2) := by decide +kernel
theorem dX8_breaks_12 : decode cX8_breaks 12 = .ok (.iload 7, 2) := by decide +kernel
theorem dX8_breaks_14 : decode cX8_breaks 14 = .ok (.iload_n 2, 1) := by decide +kernel
theorem dX8_breaks_15 : decode cX8_breaks 15 = .ok (.iload_n 3, 1) := by decide +kernel
theorem dX8_breaks_16 : decode cX8_breaks 16 = .ok (.iload 4, 2) := by decide +kernel
theorem dX8_breaks_18 : decode cX8_breaks 18 = .ok (.iload 5, 2) := by decide +kernel
theorem dX8_breaks_20 : decode cX8_breaks 20 = .ok (.iload 6, 2) := by decide +kernel
theorem dX8_breaks_22 : decode cX8_breaks 22 = .ok (.invokevirtual 208, 3) := by decide +kernel
theorem dX8_breaks_25 : decode cX8_breaks 25 = .ok (.ifCond .eq 5, 3) := by decide +kernel
theorem dX8_breaks_28 : decode cX8_breaks 28 = .ok (.iconst 0, 1) := by decide +kernel
theorem dX8_breaks_29 : decode cX8_breaks 29 = .ok (.ireturn, 1) := by decide +kernel
theorem dX8_breaks_30 : decode cX8_breaks 30 = .ok (.aload_n 0, 1) := by decide +kernel
theorem dX8_breaks_31 : decode cX8_breaks 31 = .ok (.bipush 12, 2) := by decide +kernel
theorem dX8_breaks_33 : decode cX8_breaks 33 = .ok (.iload_n 1, 1) := by decide +kernel
theorem dX8_breaks_34 : decode cX8_breaks 34 = .ok (.iload_n 2, 1) := by decide +kernel
theorem dX8_breaks_35 : decode cX8_breaks 35 = .ok (.iload_n 3, 1) := by decide +kernel
theorem dX8_breaks_36 : decode cX8_breaks 36 = .ok (.iload 4, 2) := by decide +kernel
theorem dX8_breaks_38 : decode cX8_breaks 38 = .ok (.iload 5, 2) := by decide +kernel
theorem dX8_breaks_40 : decode cX8_breaks 40 = .ok (.iload 6, 2) := by decide +kernel
theorem dX8_breaks_42 : decode cX8_breaks 42 = .ok (.invokevirtual 208, 3) := by decide +kernel
theorem dX8_breaks_45 : decode cX8_breaks 45 = .ok (.istore 8, 2) := by decide +kernel
theorem dX8_breaks_47 : decode cX8_breaks 47 = .ok (.iload 8, 2) := by decide +kernel
theorem dX8_breaks_49 : decode cX8_breaks 49 = .ok (.ifCond .eq 21, 3) := by decide +kernel
theorem dX8_breaks_52 : decode cX8_breaks 52 = .ok (.iload 8, 2) := by decide +kernel
theorem dX8_breaks_54 : decode cX8_breaks 54 = .ok (.bipush 8, 2) := by decide +kernel
theorem dX8_breaks_56 : decode cX8_breaks 56 = .ok (.if_icmp .eq 14, 3) := by decide +kernel
theorem dX8_breaks_59 : decode cX8_breaks 59 = .ok (.iload 8, 2) := by decide +kernel
theorem dX8_breaks_61 : decode cX8_breaks 61 = .ok (.bipush 9, 2) := by decide +kernel
theorem dX8_breaks_63 : decode cX8_breaks 63 = .ok (.if_icmp .eq 7, 3) := by decide +kernel
theorem dX8_breaks_66 : decode cX8_breaks 66 = .ok (.iconst 1, 1) := by decide +kernel
theorem dX8_breaks_67 : decode cX8_breaks 67 = .ok (.goto 4, 3) := by decide +kernel
theorem dX8_breaks_70 : decode cX8_breaks 70 = .ok (.iconst 0, 1) := by decide +kernel
theorem dX8_breaks_71 : decode cX8_breaks 71 = .ok (.ireturn, 1) := by decide +kernel
theorem dX8_breaksAny_0 : decode cX8_breaksAny 0 = .ok (.iload_n 3, 1) := by decide +kernel
theorem dX8_breaksAny_1 : decode cX8_breaksAny 1 = .ok (.iconst 2, 1) := by decide +kernel
theorem dX8_breaksAny_2 : decode cX8_breaksAny 2 = .ok (.if_icmp .eq 22, 3) := by decide +kernel
theorem dX8_breaksAny_5 : decode cX8_breaksAny 5 = .ok (.iload_n 3, 1) := by decide +kernel
theorem dX8_breaksAny_6 : decode cX8_breaksAny 6 = .ok (.iconst 4, 1) := by decide +kernel
theorem dX8_breaksAny_7 : decode cX8_breaksAny 7 = .ok (.if_icmp .eq 17, 3) := by decide +kernel
theorem dX8_breaksAny_10 : decode cX8_breaksAny 10 = .ok (.aload_n 0, 1) := by decide +kernel
theorem dX8_breaksAny_11 : decode cX8_breaksAny 11 = .ok (.iload_n 2, 1) := by decide +kernel
theorem dX8_breaksAny_12 : decode cX8_breaksAny 12 = .ok (.iload_n 3, 1) := by decide +kernel
theorem dX8_breaksAny_13 : decode cX8_breaksAny 13 = .ok (.iload 4, 2) := by decide +kernel
theorem dX8_breaksAny_15 : decode cX8_breaksAny 15 = .ok (.iload 5, 2) := by decide +kernel
theorem dX8_breaksAny_17 : decode cX8_breaksAny 17 = .ok (.iload 6, 2) := by decide +kernel
theorem dX8_breaksAny_19 : decode cX8_breaksAny 19 = .ok (.iconst (-1), 1) := by decide +kernel
theorem dX8_breaksAny_20 : decode cX8_breaksAny 20 = .ok (.invokevirtual 248, 3) := by decide +kernel
theorem dX8_breaksAny_23 : decode cX8_breaksAny 23 = .ok (.ireturn, 1) := by decide +kernel
theorem dX8_breaksAny_24 : decode cX8_breaksAny 24 = .ok (.iconst 0, 1) := by decide +kernel
theorem dX8_breaksAny_25 : decode cX8_breaksAny 25 = .ok (.istore 7, 2) := by decide +kernel
theorem dX8_breaksAny_27 : decode cX8_breaksAny 27 = .ok (.bipush 10, 2) := by decide +kernel
theorem dX8_breaksAny_29 : decode cX8_breaksAny 29 = .ok (.iload_n 1, 1) := by decide +kernel
theorem dX8_breaksAny_30 : decode cX8_breaksAny 30 = .ok (.imul, 1) := by decide +kernel
theorem dX8_breaksAny_31 : decode cX8_breaksAny 31 = .ok (.istore 8, 2) := by decide +kernel
theorem dX8_breaksAny_33 : decode cX8_breaksAny 33 = .ok (.iload 8, 2) := by decide +kernel
theorem dX8_breaksAny_35 : decode cX8_breaksAny 35 = .ok (.bipush 10, 2) := by decide +kernel
theorem dX8_breaksAny_37 : decode cX8_breaksAny 37 = .ok (.iload_n 1, 1) := by decide +kernel
theorem dX8_breaksAny_38 : decode cX8_breaksAny 38 = .ok (.imul, 1) := by decide +kernel
theorem dX8_breaksAny_39 : decode cX8_breaksAny 39 = .ok (.aload_n 0, 1) := by decide +kernel
theorem dX8_breaksAny_40 : decode cX8_breaksAny 40 = .ok (.getfield 13, 3) := by decide +kernel
theorem dX8_breaksAny_43 : decode cX8_breaksAny 43 = .ok (.iload_n 1, 1) := by decide +kernel
theorem dX8_breaksAny_44 : decode cX8_breaksAny 44 = .ok (.iaload, 1) := by decide +kernel
theorem dX8_breaksAny_45 : decode cX8_breaksAny 45 = .ok (.iadd, 1) := by decide +kernel
theorem dX8_breaksAny_46 : decode cX8_breaksAny 46 = .ok (.if_icmp .ge 35, 3) := by decide +kernel
theorem dX8_breaksAny_49 : decode cX8_breaksAny 49 = .ok (.iload 7, 2) := by decide +kernel
theorem dX8_breaksAny_51 : decode cX8_breaksAny 51 = .ok (.ifCond .ne 30, 3) := by decide +kernel
theorem dX8_breaksAny_54 : decode cX8_breaksAny 54 = .ok (.aload_n 0, 1) := by decide +kernel
theorem dX8_breaksAny_55 : decode cX8_breaksAny 55 = .ok (.iload_n 2, 1) := by decide +kernel
theorem dX8_breaksAny_56 : decode cX8_breaksAny 56 = .ok (.iload_n 3, 1) := by decide +kernel
theorem dX8_breaksAny_57 : decode cX8_breaksAny 57 = .ok (.iload 4, 2) := by decide +kernel
theorem dX8_breaksAny_59 : decode cX8_breaksAny 59 = .ok (.iload 5, 2) := by decide +kernel
theorem dX8_breaksAny_61 : decode cX8_breaksAny 61 = .ok (.iload 6, 2) := by decide +kernel
theorem dX8_breaksAny_63 : decode cX8_breaksAny 63 = .ok (.aload_n 0, 1) := by decide +kernel
theorem dX8_breaksAny_64 : decode cX8_breaksAny 64 = .ok (.getfield 17, 3) := by decide +kernel
theorem dX8_breaksAny_67 : decode cX8_breaksAny 67 = .ok (.iload 8, 2) := by decide +kernel
theorem dX8_breaksAny_69 : decode cX8_breaksAny 69 = .ok (.iaload, 1) := by decide +kernel
theorem dX8_breaksAny_70 : decode cX8_breaksAny 70 = .ok (.invokevirtual 248, 3) := by decide +kernel
theorem dX8_breaksAny_73 : decode cX8_breaksAny 73 = .ok (.istore 7, 2) := by decide +kernel
theorem dX8_breaksAny_75 : decode cX8_breaksAny 75 = .ok (.iinc 8 1, 3) := by decide +kernel
theorem dX8_breaksAny_78 : decode cX8_breaksAny 78 = .ok (.goto (-45), 3) := by decide +kernel
theorem dX8_breaksAny_81 : decode cX8_breaksAny 81 = .ok (.iload 7, 2) := by decide +kernel
theorem dX8_breaksAny_83 : decode cX8_breaksAny 83 = .ok (.ireturn, 1) := by decide +kernel
theorem dX8_compatible_0 : decode cX8_compatible 0 = .ok (.aload_n 0, 1) := by decide +kernel
theorem dX8_compatible_1 : decode cX8_compatible 1 = .ok (.aload_n 0, 1) := by decide +kernel
theorem dX8_compatible_2 : decode cX8_compatible 2 = .ok (.iload_n 1, 1) := by decide +kernel
theorem dX8_compatible_3 : decode cX8_compatible 3 = .ok (.iload_n 2, 1) := by decide +kernel
theorem dX8_compatible_4 : decode cX8_compatible 4 = .ok (.invokevirtual 242, 3) := by decide +kernel
theorem dX8_compatible_7 : decode cX8_compatible 7 = .ok (.putfield 122, 3) := by decide +kernel
theorem dX8_compatible_10 : decode cX8_compatible 10 = .ok (.aload_n 0, 1) := by decide +kernel
theorem dX8_compatible_11 : decode cX8_compatible 11 = .ok (.getfield 122, 3) := by decide +kernel
theorem dX8_compatible_14 : decode cX8_compatible 14 = .ok (.ifCond .le 5, 3) := by decide +kernel
theorem dX8_compatible_17 : decode cX8_compatible 17 = .ok (.iconst 0, 1) := by decide +kernel
theorem dX8_compatible_18 : decode cX8_compatible 18 = .ok (.ireturn, 1) := by decide +kernel
theorem dX8_compatible_19 : decode cX8_compatible 19 = .ok (.aload_n 0, 1) := by decide +kernel
theorem dX8_compatible_20 : decode cX8_compatible 20 = .ok (.getfield 68, 3) := by decide +kernel
theorem dX8_compatible_23 : decode cX8_compatible 23 = .ok (.bipush 12, 2) := by decide +kernel
theorem dX8_compatible_25 : decode cX8_compatible 25 = .ok (.iload_n 1, 1) := by decide +kernel
theorem dX8_compatible_26 : decode cX8_compatible 26 = .ok (.iastore, 1) := by decide +kernel
theorem dX8_compatible_27 : decode cX8_compatible 27 = .ok (.aload_n 0, 1) := by decide +kernel
theorem dX8_compatible_28 : decode cX8_compatible 28 = .ok (.getfield 74, 3) := by decide +kernel
theorem dX8_compatible_31 : decode cX8_compatible 31 = .ok (.bipush 12, 2) := by decide +kernel
theorem dX8_compatible_33 : decode cX8_compatible 33 = .ok (.iconst (-1), 1) := by decide +kernel
theorem dX8_compatible_34 : decode cX8_compatible 34 = .ok (.iastore, 1) := by decide +kernel
theorem dX8_compatible_35 : decode cX8_compatible 35 = .ok (.iconst 0, 1) := by decide +kernel
theorem dX8_compatible_36 : decode cX8_compatible 36 = .ok (.istore_n 3, 1) := by decide +kernel
theorem dX8_compatible_37 : decode cX8_compatible 37 = .ok (.iconst 0, 1) := by decide +kernel
theorem dX8_compatible_38 : decode cX8_compatible 38 = .ok (.istore 4, 2) := by decide +kernel
theorem dX8_compatible_40 : decode cX8_compatible 40 = .ok (.iload 4, 2) := by decide +kernel
theorem dX8_compatible_42 : decode cX8_compatible 42 = .ok (.iconst 5, 1) := by decide +kernel
theorem dX8_compatible_43 : decode cX8_compatible 43 = .ok (.if_icmp .ge 68, 3) := by decide +kernel
theorem dX8_compatible_46 : decode cX8_compatible 46 = .ok (.iload_n 3, 1) := by decide +kernel
theorem dX8_compatible_47 : decode cX8_compatible 47 = .ok (.ifCond .ne 64, 3) := by decide +kernel
theorem dX8_compatible_50 : decode cX8_compatible 50 = .ok (.aload_n 0, 1) := by decide +kernel
theorem dX8_compatible_51 : decode cX8_compatible 51 = .ok (.getfield 71, 3) := by decide +kernel
theorem dX8_compatible_54 : decode cX8_compatible 54 = .ok (.bipush 12, 2) := by decide +kernel
theorem dX8_compatible_56 : decode cX8_compatible 56 = .ok (.iload 4, 2) := by decide +kernel
theorem dX8_compatible_58 : decode cX8_compatible 58 = .ok (.iastore, 1) := by decide +kernel
theorem dX8_compatible_59 : decode cX8_compatible 59 = .ok (.bipush 10, 2) := by decide +kernel
theorem dX8_compatible_61 : decode cX8_compatible 61 = .ok (.iload_n 1, 1) := by decide +kernel
theorem dX8_compatible_62 : decode cX8_compatible 62 = .ok (.imul, 1) := by decide +kernel
theorem dX8_compatible_63 : decode cX8_compatible 63 = .ok (.istore 5, 2) := by decide +kernel
theorem dX8_compatible_65 : decode cX8_compatible 65 = .ok (.iload 5, 2) := by decide +kernel
theorem dX8_compatible_67 : decode cX8_compatible 67 = .ok (.bipush 10, 2) := by decide +kernel
theorem dX8_compatible_69 : decode cX8_compatible 69 = .ok (.iload_n 1, 1) := by decide +kernel
theorem dX8_compatible_70 : decode cX8_compatible 70 = .ok (.imul, 1) := by decide +kernel
theorem dX8_compatible_71 : decode cX8_compatible 71 = .ok (.aload_n 0, 1) := by decide +kernel
theorem dX8_compatible_72 : decode cX8_compatible 72 = .ok (.getfield 13, 3) := by decide +kernel
theorem dX8_compatible_75 : decode cX8_compatible 75 = .ok (.iload_n 1, 1) := by decide +kernel
theorem dX8_compatible_76 : decode cX8_compatible 76 = .ok (.iaload, 1) := by decide +kernel
theorem dX8_compatible_77 : decode cX8_compatible 77 = .ok (.iadd, 1) := by decide +kernel
theorem dX8_compatible_78 : decode cX8_compatible 78 = .ok (.if_icmp .ge 27, 3) := by decide +kernel
theorem dX8_compatible_81 : decode cX8_compatible 81 = .ok (.iload_n 3, 1) := by decide +kernel
theorem dX8_compatible_82 : decode cX8_compatible 82 = .ok (.ifCond .ne 23, 3) := by decide +kernel
theorem dX8_compatible_85 : decode cX8_compatible 85 = .ok (.aload_n 0, 1) := by decide +kernel
theorem dX8_compatible_86 : decode cX8_compatible 86 = .ok (.iload_n 1, 1) := by decide +kernel
theorem dX8_compatible_87 : decode cX8_compatible 87 = .ok (.iload_n 2, 1) := by decide +kernel
theorem dX8_compatible_88 : decode cX8_compatible 88 = .ok (.aload_n 0, 1) := by decide +kernel
theorem dX8_compatible_89 : decode cX8_compatible 89 = .ok (.getfield 17, 3) := by decide +kernel
theorem dX8_compatible_92 : decode cX8_compatible 92 = .ok (.iload 5, 2) := by decide +kernel
theorem dX8_compatible_94 : decode cX8_compatible 94 = .ok (.iaload, 1) := by decide +kernel
theorem dX8_compatible_95 : decode cX8_compatible 95 = .ok (.invokevirtual 252, 3) := by decide +kernel
theorem dX8_compatible_98 : decode cX8_compatible 98 = .ok (.istore_n 3, 1) := by decide +kernel
theorem dX8_compatible_99 : decode cX8_compatible 99 = .ok (.iinc 5 1, 3) := by decide +kernel
theorem dX8_compatible_102 : decode cX8_compatible 102 = .ok (.goto (-37), 3) := by decide +kernel
theorem dX8_compatible_105 : decode cX8_compatible 105 = .ok (.iinc 4 1, 3) := by decide +kernel
theorem dX8_compatible_108 : decode cX8_compatible 108 = .ok (.goto (-68), 3) := by decide +kernel
theorem dX8_compatible_111 : decode cX8_compatible 111 = .ok (.iload_n 3, 1) := by decide +kernel
theorem dX8_compatible_112 : decode cX8_compatible 112 = .ok (.ifCond .ne 7, 3) := by decide +kernel
theorem dX8_compatible_115 : decode cX8_compatible 115 = .ok (.iconst 1, 1) := by decide +kernel
theorem dX8_compatible_116 : decode cX8_compatible 116 = .ok (.goto 4, 3) := by decide +kernel
theorem dX8_compatible_119 : decode cX8_compatible 119 = .ok (.iconst 0, 1) := by decide +kernel
theorem dX8_compatible_120 : decode cX8_compatible 120 = .ok (.ireturn, 1) := by decide +kernel
theorem dX8_breaksType_0 : decode cX8_breaksType 0 = .ok (.aload_n 0, 1) := by decide +kernel
theorem dX8_breaksType_1 : decode cX8_breaksType 1 = .ok (.iload_n 2, 1) := by decide +kernel
theorem dX8_breaksType_2 : decode cX8_breaksType 2 = .ok (.iconst 5, 1) := by decide +kernel
theorem dX8_breaksType_3 : decode cX8_breaksType 3 = .ok (.iload_n 3, 1) := by decide +kernel
theorem dX8_breaksType_4 : decode cX8_breaksType 4 = .ok (.iconst 0, 1) := by decide +kernel
theorem dX8_breaksType_5 : decode cX8_breaksType 5 = .ok (.iconst 0, 1) := by decide +kernel
theorem dX8_breaksType_6 : decode cX8_breaksType 6 = .ok (.iconst (-1), 1) := by decide +kernel
theorem dX8_breaksType_7 : decode cX8_breaksType 7 = .ok (.invokevirtual 248, 3) := by decide +kernel
theorem dX8_breaksType_10 : decode cX8_breaksType 10 = .ok (.ifCond .eq 5, 3) := by decide +kernel
theorem dX8_breaksType_13 : decode cX8_breaksType 13 = .ok (.iconst 1, 1) := by decide +kernel
theorem dX8_breaksType_14 : decode cX8_breaksType 14 = .ok (.ireturn, 1) := by decide +kernel
theorem dX8_breaksType_15 : decode cX8_breaksType 15 = .ok (.iconst 0, 1) := by decide +kernel
theorem dX8_breaksType_16 : decode cX8_breaksType 16 = .ok (.istore 4, 2) := by decide +kernel
theorem dX8_breaksType_18 : decode cX8_breaksType 18 = .ok (.iconst 0, 1) := by decide +kernel
theorem dX8_breaksType_19 : decode cX8_breaksType 19 = .ok (.istore 5, 2) := by decide +kernel
theorem dX8_breaksType_21 : decode cX8_breaksType 21 = .ok (.iload 5, 2) := by decide +kernel
theorem dX8_breaksType_23 : decode cX8_breaksType 23 = .ok (.bipush 60, 2) := by decide +kernel
theorem dX8_breaksType_25 : decode cX8_breaksType 25 = .ok (.if_icmp .ge 145, 3) := by decide +kernel
theorem dX8_breaksType_28 : decode cX8_breaksType 28 = .ok (.iload 4, 2) := by decide +kernel
theorem dX8_breaksType_30 : decode cX8_breaksType 30 = .ok (.ifCond .ne 140, 3) := by decide +kernel
theorem dX8_breaksType_33 : decode cX8_breaksType 33 = .ok (.bipush 10, 2) := by decide +kernel
theorem dX8_breaksType_35 : decode cX8_breaksType 35 = .ok (.iload_n 1, 1) := by decide +kernel
theorem dX8_breaksType_36 : decode cX8_breaksType 36 = .ok (.imul, 1) := by decide +kernel
theorem dX8_breaksType_37 : decode cX8_breaksType 37 = .ok (.iload 5, 2) := by decide +kernel
theorem dX8_breaksType_39 : decode cX8_breaksType 39 = .ok (.bipush 6, 2) := by decide +kernel
theorem dX8_breaksType_41 : decode cX8_breaksType 41 = .ok (.idiv, 1) := by decide +kernel
theorem dX8_breaksType_42 : decode cX8_breaksType 42 = .ok (.iadd, 1) := by decide +kernel
theorem dX8_breaksType_43 : decode cX8_breaksType 43 = .ok (.istore 6, 2) := by decide +kernel
theorem dX8_breaksType_45 : decode cX8_breaksType 45 = .ok (.iload 5, 2) := by decide +kernel
theorem dX8_breaksType_47 : decode cX8_breaksType 47 = .ok (.bipush 6, 2) := by decide +kernel
theorem dX8_breaksType_49 : decode cX8_breaksType 49 = .ok (.idiv, 1) := by decide +kernel
theorem dX8_breaksType_50 : decode cX8_breaksType 50 = .ok (.aload_n 0, 1) := by decide +kernel
theorem dX8_breaksType_51 : decode cX8_breaksType 51 = .ok (.getfield 13, 3) := by decide +kernel
theorem dX8_breaksType_54 : decode cX8_breaksType 54 = .ok (.iload_n 1, 1) := by decide +kernel
theorem dX8_breaksType_55 : decode cX8_breaksType 55 = .ok (.iaload, 1) := by decide +kernel
theorem dX8_breaksType_56 : decode cX8_breaksType 56 = .ok (.if_icmp .ge 108, 3) := by decide +kernel
theorem dX8_breaksType_59 : decode cX8_breaksType 59 = .ok (.iload 5, 2) := by decide +kernel
theorem dX8_breaksType_61 : decode cX8_breaksType 61 = .ok (.bipush 6, 2) := by decide +kernel
theorem dX8_breaksType_63 : decode cX8_breaksType 63 = .ok (.irem, 1) := by decide +kernel
theorem dX8_breaksType_64 : decode cX8_breaksType 64 = .ok (.aload_n 0, 1) := by decide +kernel
theorem dX8_breaksType_65 : decode cX8_breaksType 65 = .ok (.getfield 41, 3) := by decide +kernel
theorem dX8_breaksType_68 : decode cX8_breaksType 68 = .ok (.iload 6, 2) := by decide +kernel
theorem dX8_breaksType_70 : decode cX8_breaksType 70 = .ok (.iaload, 1) := by decide +kernel
theorem dX8_breaksType_71 : decode cX8_breaksType 71 = .ok (.if_icmp .lt 6, 3) := by decide +kernel
theorem dX8_breaksType_74 : decode cX8_breaksType 74 = .ok (.goto 90, 3) := by decide +kernel
theorem dX8_breaksType_77 : decode cX8_breaksType 77 = .ok (.bipush 6, 2) := by decide +kernel
theorem dX8_breaksType_79 : decode cX8_breaksType 79 = .ok (.iload 6, 2) := by decide +kernel
theorem dX8_breaksType_81 : decode cX8_breaksType 81 = .ok (.imul, 1) := by decide +kernel
theorem dX8_breaksType_82 : decode cX8_breaksType 82 = .ok (.iload 5, 2) := by decide +kernel
theorem dX8_breaksType_84 : decode cX8_breaksType 84 = .ok (.bipush 6, 2) := by decide +kernel
theorem dX8_breaksType_86 : decode cX8_breaksType 86 = .ok (.irem, 1) := by decide +kernel
theorem dX8_breaksType_87 : decode cX8_breaksType 87 = .ok (.iadd, 1) := by decide +kernel
theorem dX8_breaksType_88 : decode cX8_breaksType 88 = .ok (.istore 7, 2) := by decide +kernel
theorem dX8_breaksType_90 : decode cX8_breaksType 90 = .ok (.iconst 0, 1) := by decide +kernel
theorem dX8_breaksType_91 : decode cX8_breaksType 91 = .ok (.istore 8, 2) := by decide +kernel
theorem dX8_breaksType_93 : decode cX8_breaksType 93 = .ok (.iload 8, 2) := by decide +kernel
theorem dX8_breaksType_95 : decode cX8_breaksType 95 = .ok (.iconst 5, 1) := by decide +kernel
theorem dX8_breaksType_96 : decode cX8_breaksType 96 = .ok (.if_icmp .ge 68, 3) := by decide +kernel
theorem dX8_breaksType_99 : decode cX8_breaksType 99 = .ok (.iload 4, 2) := by decide +kernel
theorem dX8_breaksType_101 : decode cX8_breaksType 101 = .ok (.ifCond .ne 63, 3) := by decide +kernel
theorem dX8_breaksType_104 : decode cX8_breaksType 104 = .ok (.iload 8, 2) := by decide +kernel
theorem dX8_breaksType_106 : decode cX8_breaksType 106 = .ok (.iconst 2, 1) := by decide +kernel
theorem dX8_breaksType_107 : decode cX8_breaksType 107 = .ok (.if_icmp .ge 7, 3) := by decide +kernel
theorem dX8_breaksType_110 : decode cX8_breaksType 110 = .ok (.iconst 1, 1) := by decide +kernel
theorem dX8_breaksType_111 : decode cX8_breaksType 111 = .ok (.goto 4, 3) := by decide +kernel
theorem dX8_breaksType_114 : decode cX8_breaksType 114 = .ok (.iconst 0, 1) := by decide +kernel
theorem dX8_breaksType_115 : decode cX8_breaksType 115 = .ok (.aload_n 0, 1) := by decide +kernel
theorem dX8_breaksType_116 : decode cX8_breaksType 116 = .ok (.getfield 44, 3) := by decide +kernel
theorem dX8_breaksType_119 : decode cX8_breaksType 119 = .ok (.iload 7, 2) := by decide +kernel
theorem dX8_breaksType_121 : decode cX8_breaksType 121 = .ok (.iaload, 1) := by decide +kernel
theorem dX8_breaksType_122 : decode cX8_breaksType 122 = .ok (.ifCond .ne 7, 3) := by decide +kernel
theorem dX8_breaksType_125 : decode cX8_breaksType 125 = .ok (.iconst 1, 1) := by decide +kernel
theorem dX8_breaksType_126 : decode cX8_breaksType 126 = .ok (.goto 4, 3) := by decide +kernel
theorem dX8_breaksType_129 : decode cX8_breaksType 129 = .ok (.iconst 0, 1) := by decide +kernel
theorem dX8_breaksType_130 : decode cX8_breaksType 130 = .ok (.if_icmp .ne 28, 3) := by decide +kernel
theorem dX8_breaksType_133 : decode cX8_breaksType 133 = .ok (.aload_n 0, 1) := by decide +kernel
theorem dX8_breaksType_134 : decode cX8_breaksType 134 = .ok (.iload_n 1, 1) := by decide +kernel
theorem dX8_breaksType_135 : decode cX8_breaksType 135 = .ok (.iload_n 2, 1) := by decide +kernel
theorem dX8_breaksType_136 : decode cX8_breaksType 136 = .ok (.iload 8, 2) := by decide +kernel
theorem dX8_breaksType_138 : decode cX8_breaksType 138 = .ok (.iload_n 3, 1) := by decide +kernel
theorem dX8_breaksType_139 : decode cX8_breaksType 139 = .ok (.aload_n 0, 1) := by decide +kernel
theorem dX8_breaksType_140 : decode cX8_breaksType 140 = .ok (.getfield 47, 3) := by decide +kernel
theorem dX8_breaksType_143 : decode cX8_breaksType 143 = .ok (.iload 7, 2) := by decide +kernel
theorem dX8_breaksType_145 : decode cX8_breaksType 145 = .ok (.iaload, 1) := by decide +kernel
theorem dX8_breaksType_146 : decode cX8_breaksType 146 = .ok (.aload_n 0, 1) := by decide +kernel
theorem dX8_breaksType_147 : decode cX8_breaksType 147 = .ok (.getfield 50, 3) := by decide +kernel
theorem dX8_breaksType_150 : decode cX8_breaksType 150 = .ok (.iload 7, 2) := by decide +kernel
theorem dX8_breaksType_152 : decode cX8_breaksType 152 = .ok (.iaload, 1) := by decide +kernel
theorem dX8_breaksType_153 : decode cX8_breaksType 153 = .ok (.invokevirtual 255, 3) := by decide +kernel
theorem dX8_breaksType_156 : decode cX8_breaksType 156 = .ok (.istore 4, 2) := by decide +kernel
theorem dX8_breaksType_158 : decode cX8_breaksType 158 = .ok (.iinc 8 1, 3) := by decide +kernel
theorem dX8_breaksType_161 : decode cX8_breaksType 161 = .ok (.goto (-68), 3) := by decide +kernel
theorem dX8_breaksType_164 : decode cX8_breaksType 164 = .ok (.iinc 5 1, 3) := by decide +kernel
theorem dX8_breaksType_167 : decode cX8_breaksType 167 = .ok (.goto (-146), 3) := by decide +kernel
theorem dX8_breaksType_170 : decode cX8_breaksType 170 = .ok (.iload 4, 2) := by decide +kernel
theorem dX8_breaksType_172 : decode cX8_breaksType 172 = .ok (.ireturn, 1) := by decide +kernel
theorem dX8_count_0 : decode cX8_count 0 = .ok (.aload_n 0, 1) := by decide +kernel
theorem dX8_count_1 : decode cX8_count 1 = .ok (.iconst 0, 1) := by decide +kernel
theorem dX8_count_2 : decode cX8_count 2 = .ok (.putfield 122, 3) := by decide +kernel
theorem dX8_count_5 : decode cX8_count 5 = .ok (.iload_n 1, 1) := by decide +kernel
theorem dX8_count_6 : decode cX8_count 6 = .ok (.ifCond .ne 10, 3) := by decide +kernel
theorem dX8_count_9 : decode cX8_count 9 = .ok (.aload_n 0, 1) := by decide +kernel
theorem dX8_count_10 : decode cX8_count 10 = .ok (.getfield 126, 3) := by decide +kernel
theorem dX8_count_13 : decode cX8_count 13 = .ok (.goto 16, 3) := by decide +kernel
theorem dX8_count_16 : decode cX8_count 16 = .ok (.iload_n 1, 1) := by decide +kernel
theorem dX8_count_17 : decode cX8_count 17 = .ok (.iconst 1, 1) := by decide +kernel
theorem dX8_count_18 : decode cX8_count 18 = .ok (.if_icmp .ne 10, 3) := by decide +kernel
theorem dX8_count_21 : decode cX8_count 21 = .ok (.aload_n 0, 1) := by decide +kernel
theorem dX8_count_22 : decode cX8_count 22 = .ok (.getfield 129, 3) := by decide +kernel
theorem dX8_count_25 : decode cX8_count 25 = .ok (.goto 4, 3) := by decide +kernel
theorem dX8_count_28 : decode cX8_count 28 = .ok (.iconst (-1), 1) := by decide +kernel
theorem dX8_count_29 : decode cX8_count 29 = .ok (.ireturn, 1) := by decide +kernel
theorem dX8_look_0 : decode cX8_look 0 = .ok (.aload_n 0, 1) := by decide +kernel
theorem dX8_look_1 : decode cX8_look 1 = .ok (.aload_n 0, 1) := by decide +kernel
theorem dX8_look_2 : decode cX8_look 2 = .ok (.iload_n 1, 1) := by decide +kernel
theorem dX8_look_3 : decode cX8_look 3 = .ok (.invokevirtual 132, 3) := by decide +kernel
theorem dX8_look_6 : decode cX8_look 6 = .ok (.ifCond .ne 7, 3) := by decide +kernel
theorem dX8_look_9 : decode cX8_look 9 = .ok (.iconst 1, 1) := by decide +kernel
theorem dX8_look_10 : decode cX8_look 10 = .ok (.goto 4, 3) := by decide +kernel
theorem dX8_look_13 : decode cX8_look 13 = .ok (.iconst 0, 1) := by decide +kernel
theorem dX8_look_14 : decode cX8_look 14 = .ok (.putfield 122, 3) := by decide +kernel
theorem dX8_look_17 : decode cX8_look 17 = .ok (.aload_n 0, 1) := by decide +kernel
theorem dX8_look_18 : decode cX8_look 18 = .ok (.getfield 122, 3) := by decide +kernel
theorem dX8_look_21 : decode cX8_look 21 = .ok (.ifCond .le 5, 3) := by decide +kernel
theorem dX8_look_24 : decode cX8_look 24 = .ok (.iconst 0, 1) := by decide +kernel
theorem dX8_look_25 : decode cX8_look 25 = .ok (.ireturn, 1) := by decide +kernel
theorem dX8_look_26 : decode cX8_look 26 = .ok (.iconst 0, 1) := by decide +kernel
theorem dX8_look_27 : decode cX8_look 27 = .ok (.istore_n 3, 1) := by decide +kernel
theorem dX8_look_28 : decode cX8_look 28 = .ok (.bipush 10, 2) := by decide +kernel
theorem dX8_look_30 : decode cX8_look 30 = .ok (.iload_n 1, 1) := by decide +kernel
theorem dX8_look_31 : decode cX8_look 31 = .ok (.imul, 1) := by decide +kernel
theorem dX8_look_32 : decode cX8_look 32 = .ok (.istore 4, 2) := by decide +kernel
theorem dX8_look_34 : decode cX8_look 34 = .ok (.iload 4, 2) := by decide +kernel
theorem dX8_look_36 : decode cX8_look 36 = .ok (.bipush 10, 2) := by decide +kernel
theorem dX8_look_38 : decode cX8_look 38 = .ok (.iload_n 1, 1) := by decide +kernel
theorem dX8_look_39 : decode cX8_look 39 = .ok (.imul, 1) := by decide +kernel
theorem dX8_look_40 : decode cX8_look 40 = .ok (.aload_n 0, 1) := by decide +kernel
theorem dX8_look_41 : decode cX8_look 41 = .ok (.getfield 13, 3) := by decide +kernel
theorem dX8_look_44 : decode cX8_look 44 = .ok (.iload_n 1, 1) := by decide +kernel
theorem dX8_look_45 : decode cX8_look 45 = .ok (.iaload, 1) := by decide +kernel
theorem dX8_look_46 : decode cX8_look 46 = .ok (.iadd, 1) := by decide +kernel
theorem dX8_look_47 : decode cX8_look 47 = .ok (.if_icmp .ge 19, 3) := by decide +kernel
theorem dX8_look_50 : decode cX8_look 50 = .ok (.iload_n 3, 1) := by decide +kernel
theorem dX8_look_51 : decode cX8_look 51 = .ok (.aload_n 0, 1) := by decide +kernel
theorem dX8_look_52 : decode cX8_look 52 = .ok (.getfield 41, 3) := by decide +kernel
theorem dX8_look_55 : decode cX8_look 55 = .ok (.iload 4, 2) := by decide +kernel
theorem dX8_look_57 : decode cX8_look 57 = .ok (.iaload, 1) := by decide +kernel
theorem dX8_look_58 : decode cX8_look 58 = .ok (.iadd, 1) := by decide +kernel
theorem dX8_look_59 : decode cX8_look 59 = .ok (.istore_n 3, 1) := by decide +kernel
theorem dX8_look_60 : decode cX8_look 60 = .ok (.iinc 4 1, 3) := by decide +kernel
theorem dX8_look_63 : decode cX8_look 63 = .ok (.goto (-29), 3) := by decide +kernel
theorem dX8_look_66 : decode cX8_look 66 = .ok (.iload_n 2, 1) := by decide +kernel
theorem dX8_look_67 : decode cX8_look 67 = .ok (.ifCond .ne 20, 3) := by decide +kernel
theorem dX8_look_70 : decode cX8_look 70 = .ok (.aload_n 0, 1) := by decide +kernel
theorem dX8_look_71 : decode cX8_look 71 = .ok (.getfield 7, 3) := by decide +kernel
theorem dX8_look_74 : decode cX8_look 74 = .ok (.iload_n 1, 1) := by decide +kernel
theorem dX8_look_75 : decode cX8_look 75 = .ok (.baload, 1) := by decide +kernel
theorem dX8_look_76 : decode cX8_look 76 = .ok (.ifCond .eq 7, 3) := by decide +kernel
theorem dX8_look_79 : decode cX8_look 79 = .ok (.iconst 1, 1) := by decide +kernel
theorem dX8_look_80 : decode cX8_look 80 = .ok (.goto 31, 3) := by decide +kernel
theorem dX8_look_83 : decode cX8_look 83 = .ok (.iconst 0, 1) := by decide +kernel
theorem dX8_look_84 : decode cX8_look 84 = .ok (.goto 27, 3) := by decide +kernel
theorem dX8_look_87 : decode cX8_look 87 = .ok (.iload_n 2, 1) := by decide +kernel
theorem dX8_look_88 : decode cX8_look 88 = .ok (.iconst 1, 1) := by decide +kernel
theorem dX8_look_89 : decode cX8_look 89 = .ok (.if_icmp .ne 12, 3) := by decide +kernel
theorem dX8_look_92 : decode cX8_look 92 = .ok (.aload_n 0, 1) := by decide +kernel
theorem dX8_look_93 : decode cX8_look 93 = .ok (.getfield 13, 3) := by decide +kernel
theorem dX8_look_96 : decode cX8_look 96 = .ok (.iload_n 1, 1) := by decide +kernel
theorem dX8_look_97 : decode cX8_look 97 = .ok (.iaload, 1) := by decide +kernel
theorem dX8_look_98 : decode cX8_look 98 = .ok (.goto 13, 3) := by decide +kernel
theorem dX8_look_101 : decode cX8_look 101 = .ok (.iload_n 2, 1) := by decide +kernel
theorem dX8_look_102 : decode cX8_look 102 = .ok (.iconst 2, 1) := by decide +kernel
theorem dX8_look_103 : decode cX8_look 103 = .ok (.if_icmp .ne 7, 3) := by decide +kernel
theorem dX8_look_106 : decode cX8_look 106 = .ok (.iload_n 3, 1) := by decide +kernel
theorem dX8_look_107 : decode cX8_look 107 = .ok (.goto 4, 3) := by decide +kernel
theorem dX8_look_110 : decode cX8_look 110 = .ok (.iconst (-1), 1) := by decide +kernel
theorem dX8_look_111 : decode cX8_look 111 = .ok (.ireturn, 1) := by decide +kernel
theorem dX8_uses_0 : decode cX8_uses 0 = .ok (.aload_n 0, 1) := by decide +kernel
theorem dX8_uses_1 : decode cX8_uses 1 = .ok (.aload_n 0, 1) := by decide +kernel
theorem dX8_uses_2 : decode cX8_uses 2 = .ok (.iload_n 1, 1) := by decide +kernel
theorem dX8_uses_3 : decode cX8_uses 3 = .ok (.invokevirtual 205, 3) := by decide +kernel
theorem dX8_uses_6 : decode cX8_uses 6 = .ok (.ifCond .ne 7, 3) := by decide +kernel
theorem dX8_uses_9 : decode cX8_uses 9 = .ok (.iconst 1, 1) := by decide +kernel
theorem dX8_uses_10 : decode cX8_uses 10 = .ok (.goto 4, 3) := by decide +kernel
theorem dX8_uses_13 : decode cX8_uses 13 = .ok (.iconst 0, 1) := by decide +kernel
theorem dX8_uses_14 : decode cX8_uses 14 = .ok (.putfield 122, 3) := by decide +kernel
theorem dX8_uses_17 : decode cX8_uses 17 = .ok (.aload_n 0, 1) := by decide +kernel
theorem dX8_uses_18 : decode cX8_uses 18 = .ok (.getfield 122, 3) := by decide +kernel
theorem dX8_uses_21 : decode cX8_uses 21 = .ok (.ifCond .le 7, 3) := by decide +kernel
theorem dX8_uses_24 : decode cX8_uses 24 = .ok (.iconst 0, 1) := by decide +kernel
theorem dX8_uses_25 : decode cX8_uses 25 = .ok (.goto 9, 3) := by decide +kernel
theorem dX8_uses_28 : decode cX8_uses 28 = .ok (.aload_n 0, 1) := by decide +kernel
theorem dX8_uses_29 : decode cX8_uses 29 = .ok (.getfield 77, 3) := by decide +kernel
theorem dX8_uses_32 : decode cX8_uses 32 = .ok (.iload_n 1, 1) := by decide +kernel
theorem dX8_uses_33 : decode cX8_uses 33 = .ok (.iaload, 1) := by decide +kernel
theorem dX8_uses_34 : decode cX8_uses 34 = .ok (.ireturn, 1) := by decide +kernel
