theorem dX6_init_0 : decode cX6_init 0 = .ok (.aload_n 0, 1) := by decide +kernel
theorem dX6_init_1 : decode cX6_init 1 = .ok (.invokespecial 3, 3) := by decide +kernel
theorem dX6_init_4 : decode cX6_init 4 = .ok (.return_, 1) := by decide +kernel
theorem dX6_begin_0 : decode cX6_begin 0 = .ok (.aload_n 0, 1) := by decide +kernel
theorem dX6_begin_1 : decode cX6_begin 1 = .ok (.iload_n 1, 1) := by decide +kernel
theorem dX6_begin_2 : decode cX6_begin 2 = .ok (.putfield 9, 3) := by decide +kernel
theorem dX6_begin_5 : decode cX6_begin 5 = .ok (.aload_n 0, 1) := by decide +kernel
theorem dX6_begin_6 : decode cX6_begin 6 = .ok (.iload_n 2, 1) := by decide +kernel
theorem dX6_begin_7 : decode cX6_begin 7 = .ok (.putfield 15, 3) := by decide +kernel
theorem dX6_begin_10 : decode cX6_begin 10 = .ok (.aload_n 0, 1) := by decide +kernel
theorem dX6_begin_11 : decode cX6_begin 11 = .ok (.iload_n 3, 1) := by decide +kernel
theorem dX6_begin_12 : decode cX6_begin 12 = .ok (.putfield 18, 3) := by decide +kernel
theorem dX6_begin_15 : decode cX6_begin 15 = .ok (.aload_n 0, 1) := by decide +kernel
theorem dX6_begin_16 : decode cX6_begin 16 = .ok (.iload 4, 2) := by decide +kernel
theorem dX6_begin_18 : decode cX6_begin 18 = .ok (.putfield 21, 3) := by decide +kernel
theorem dX6_begin_21 : decode cX6_begin 21 = .ok (.aload_n 0, 1) := by decide +kernel
theorem dX6_begin_22 : decode cX6_begin 22 = .ok (.iconst (-1), 1) := by decide +kernel
theorem dX6_begin_23 : decode cX6_begin 23 = .ok (.putfield 24, 3) := by decide +kernel
theorem dX6_begin_26 : decode cX6_begin 26 = .ok (.aload_n 0, 1) := by decide +kernel
theorem dX6_begin_27 : decode cX6_begin 27 = .ok (.iconst (-1), 1) := by decide +kernel
theorem dX6_begin_28 : decode cX6_begin 28 = .ok (.putfield 27, 3) := by decide +kernel
theorem dX6_begin_31 : decode cX6_begin 31 = .ok (.return_, 1) := by decide +kernel
theorem dX6_hasReceiver_0 : decode cX6_hasReceiver 0 = .ok (.aload_n 0, 1) := by decide +kernel
theorem dX6_hasReceiver_1 : decode cX6_hasReceiver 1 = .ok (.getfield 9, 3) := by decide +kernel
theorem dX6_hasReceiver_4 : decode cX6_hasReceiver 4 = .ok (.iconst 2, 1) := by decide +kernel
theorem dX6_hasReceiver_5 : decode cX6_hasReceiver 5 = .ok (.if_icmp .eq 11, 3) := by decide +kernel
theorem dX6_hasReceiver_8 : decode cX6_hasReceiver 8 = .ok (.aload_n 0, 1) := by decide +kernel
theorem dX6_hasReceiver_9 : decode cX6_hasReceiver 9 = .ok (.getfield 9, 3) := by decide +kernel
theorem dX6_hasReceiver_12 : decode cX6_hasReceiver 12 = .ok (.iconst 4, 1) := by decide +kernel
theorem dX6_hasReceiver_13 : decode cX6_hasReceiver 13 = .ok (.if_icmp .ne 7, 3) := by decide +kernel
theorem dX6_hasReceiver_16 : decode cX6_hasReceiver 16 = .ok (.iconst 1, 1) := by decide +kernel
theorem dX6_hasReceiver_17 : decode cX6_hasReceiver 17 = .ok (.goto 4, 3) := by decide +kernel
theorem dX6_hasReceiver_20 : decode cX6_hasReceiver 20 = .ok (.iconst 0, 1) := by decide +kernel
theorem dX6_hasReceiver_21 : decode cX6_hasReceiver 21 = .ok (.ireturn, 1) := by decide +kernel
theorem dX6_isOfMethod_0 : decode cX6_isOfMethod 0 = .ok (.aload_n 0, 1) := by decide +kernel
theorem dX6_isOfMethod_1 : decode cX6_isOfMethod 1 = .ok (.getfield 9, 3) := by decide +kernel
theorem dX6_isOfMethod_4 : decode cX6_isOfMethod 4 = .ok (.iconst 2, 1) := by decide +kernel
theorem dX6_isOfMethod_5 : decode cX6_isOfMethod 5 = .ok (.if_icmp .eq 19, 3) := by decide +kernel
theorem dX6_isOfMethod_8 : decode cX6_isOfMethod 8 = .ok (.aload_n 0, 1) := by decide +kernel
theorem dX6_isOfMethod_9 : decode cX6_isOfMethod 9 = .ok (.getfield 9, 3) := by decide +kernel
theorem dX6_isOfMethod_12 : decode cX6_isOfMethod 12 = .ok (.iconst 3, 1) := by decide +kernel
theorem dX6_isOfMethod_13 : decode cX6_isOfMethod 13 = .ok (.if_icmp .eq 11, 3) := by decide +kernel
theorem dX6_isOfMethod_16 : decode cX6_isOfMethod 16 = .ok (.aload_n 0, 1) := by decide +kernel
theorem dX6_isOfMethod_17 : decode cX6_isOfMethod 17 = .ok (.getfield 9, 3) := by decide +kernel
theorem dX6_isOfMethod_20 : decode cX6_isOfMethod 20 = .ok (.iconst 4, 1) := by decide +kernel
theorem dX6_isOfMethod_21 : decode cX6_isOfMethod 21 = .ok (.if_icmp .ne 7, 3) := by decide +kernel
theorem dX6_isOfMethod_24 : decode cX6_isOfMethod 24 = .ok (.iconst 1, 1) := by decide +kernel
theorem dX6_isOfMethod_25 : decode cX6_isOfMethod 25 = .ok (.goto 4, 3) := by decide +kernel
theorem dX6_isOfMethod_28 : decode cX6_isOfMethod 28 = .ok (.iconst 0, 1) := by decide +kernel
theorem dX6_isOfMethod_29 : decode cX6_isOfMethod 29 = .ok (.ireturn, 1) := by decide +kernel
theorem dX6_wantsStatic_0 : decode cX6_wantsStatic 0 = .ok (.aload_n 0, 1) := by decide +kernel
theorem dX6_wantsStatic_1 : decode cX6_wantsStatic 1 = .ok (.getfield 9, 3) := by decide +kernel
theorem dX6_wantsStatic_4 : decode cX6_wantsStatic 4 = .ok (.iconst 1, 1) := by decide +kernel
theorem dX6_wantsStatic_5 : decode cX6_wantsStatic 5 = .ok (.if_icmp .eq 11, 3) := by decide +kernel
theorem dX6_wantsStatic_8 : decode cX6_wantsStatic 8 = .ok (.aload_n 0, 1) := by decide +kernel
theorem dX6_wantsStatic_9 : decode cX6_wantsStatic 9 = .ok (.getfield 9, 3) := by decide +kernel
theorem dX6_wantsStatic_12 : decode cX6_wantsStatic 12 = .ok (.iconst 3, 1) := by decide +kernel
theorem dX6_wantsStatic_13 : decode cX6_wantsStatic 13 = .ok (.if_icmp .ne 7, 3) := by decide +kernel
theorem dX6_wantsStatic_16 : decode cX6_wantsStatic 16 = .ok (.iconst 1, 1) := by decide +kernel
theorem dX6_wantsStatic_17 : decode cX6_wantsStatic 17 = .ok (.goto 4, 3) := by decide +kernel
theorem dX6_wantsStatic_20 : decode cX6_wantsStatic 20 = .ok (.iconst 0, 1) := by decide +kernel
theorem dX6_wantsStatic_21 : decode cX6_wantsStatic 21 = .ok (.ireturn, 1) := by decide +kernel
theorem dX6_holder_0 : decode cX6_holder 0 = .ok (.aload_n 1, 1) := by decide +kernel
theorem dX6_holder_1 : decode cX6_holder 1 = .ok (.aload_n 1, 1) := by decide +kernel
theorem dX6_holder_2 : decode cX6_holder 2 = .ok (.aload_n 0, 1) := by decide +kernel
theorem dX6_holder_3 : decode cX6_holder 3 = .ok (.getfield 15, 3) := by decide +kernel
theorem dX6_holder_6 : decode cX6_holder 6 = .ok (.invokevirtual 30, 3) := by decide +kernel
theorem dX6_holder_9 : decode cX6_holder 9 = .ok (.aload_n 0, 1) := by decide +kernel
theorem dX6_holder_10 : decode cX6_holder 10 = .ok (.invokevirtual 36, 3) := by decide +kernel
theorem dX6_holder_13 : decode cX6_holder 13 = .ok (.aload_n 0, 1) := by decide +kernel
theorem dX6_holder_14 : decode cX6_holder 14 = .ok (.getfield 18, 3) := by decide +kernel
theorem dX6_holder_17 : decode cX6_holder 17 = .ok (.invokevirtual 40, 3) := by decide +kernel
theorem dX6_holder_20 : decode cX6_holder 20 = .ok (.areturn, 1) := by decide +kernel
theorem dX6_runner_0 : decode cX6_runner 0 = .ok (.aload_n 1, 1) := by decide +kernel
theorem dX6_runner_1 : decode cX6_runner 1 = .ok (.aload_n 2, 1) := by decide +kernel
theorem dX6_runner_2 : decode cX6_runner 2 = .ok (.aload_n 0, 1) := by decide +kernel
theorem dX6_runner_3 : decode cX6_runner 3 = .ok (.getfield 18, 3) := by decide +kernel
theorem dX6_runner_6 : decode cX6_runner 6 = .ok (.aload_n 1, 1) := by decide +kernel
theorem dX6_runner_7 : decode cX6_runner 7 = .ok (.aload_n 0, 1) := by decide +kernel
theorem dX6_runner_8 : decode cX6_runner 8 = .ok (.getfield 21, 3) := by decide +kernel
theorem dX6_runner_11 : decode cX6_runner 11 = .ok (.invokevirtual 44, 3) := by decide +kernel
theorem dX6_runner_14 : decode cX6_runner 14 = .ok (.invokevirtual 47, 3) := by decide +kernel
theorem dX6_runner_17 : decode cX6_runner 17 = .ok (.areturn, 1) := by decide +kernel
theorem dX6_rememberOwn_0 : decode cX6_rememberOwn 0 = .ok (.aload_n 0, 1) := by decide +kernel
theorem dX6_rememberOwn_1 : decode cX6_rememberOwn 1 = .ok (.aload_n 1, 1) := by decide +kernel
theorem dX6_rememberOwn_2 : decode cX6_rememberOwn 2 = .ok (.invokevirtual 51, 3) := by decide +kernel
theorem dX6_rememberOwn_5 : decode cX6_rememberOwn 5 = .ok (.astore_n 2, 1) := by decide +kernel
theorem dX6_rememberOwn_6 : decode cX6_rememberOwn 6 = .ok (.aload_n 0, 1) := by decide +kernel
theorem dX6_rememberOwn_7 : decode cX6_rememberOwn 7 = .ok (.getfield 9, 3) := by decide +kernel
theorem dX6_rememberOwn_10 : decode cX6_rememberOwn 10 = .ok (.iconst 1, 1) := by decide +kernel
theorem dX6_rememberOwn_11 : decode cX6_rememberOwn 11 = .ok (.if_icmp .ne 12, 3) := by decide +kernel
theorem dX6_rememberOwn_14 : decode cX6_rememberOwn 14 = .ok (.aload_n 0, 1) := by decide +kernel
theorem dX6_rememberOwn_15 : decode cX6_rememberOwn 15 = .ok (.aload_n 0, 1) := by decide +kernel
theorem dX6_rememberOwn_16 : decode cX6_rememberOwn 16 = .ok (.aload_n 2, 1) := by decide +kernel
theorem dX6_rememberOwn_17 : decode cX6_rememberOwn 17 = .ok (.invokevirtual 55, 3) := by decide +kernel
theorem dX6_rememberOwn_20 : decode cX6_rememberOwn 20 = .ok (.putfield 24, 3) := by decide +kernel
theorem dX6_rememberOwn_23 : decode cX6_rememberOwn 23 = .ok (.aload_n 0, 1) := by decide +kernel
theorem dX6_rememberOwn_24 : decode cX6_rememberOwn 24 = .ok (.invokevirtual 59, 3) := by decide +kernel
theorem dX6_rememberOwn_27 : decode cX6_rememberOwn 27 = .ok (.ifCond .eq 16, 3) := by decide +kernel
theorem dX6_rememberOwn_30 : decode cX6_rememberOwn 30 = .ok (.aload_n 0, 1) := by decide +kernel
theorem dX6_rememberOwn_31 : decode cX6_rememberOwn 31 = .ok (.aload_n 0, 1) := by decide +kernel
theorem dX6_rememberOwn_32 : decode cX6_rememberOwn 32 = .ok (.aload_n 1, 1) := by decide +kernel
theorem dX6_rememberOwn_33 : decode cX6_rememberOwn 33 = .ok (.aload_n 2, 1) := by decide +kernel
theorem dX6_rememberOwn_34 : decode cX6_rememberOwn 34 = .ok (.invokevirtual 62, 3) := by decide +kernel
theorem dX6_rememberOwn_37 : decode cX6_rememberOwn 37 = .ok (.invokestatic 66, 3) := by decide +kernel
theorem dX6_rememberOwn_40 : decode cX6_rememberOwn 40 = .ok (.putfield 27, 3) := by decide +kernel
theorem dX6_rememberOwn_43 : decode cX6_rememberOwn 43 = .ok (.return_, 1) := by decide +kernel
theorem dX6_constantIn_0 : decode cX6_constantIn 0 = .ok (.aload_n 1, 1) := by decide +kernel
theorem dX6_constantIn_1 : decode cX6_constantIn 1 = .ok (.ifnonnull 7, 3) := by decide +kernel
theorem dX6_constantIn_4 : decode cX6_constantIn 4 = .ok (.aconst_null, 1) := by decide +kernel
theorem dX6_constantIn_5 : decode cX6_constantIn 5 = .ok (.goto 12, 3) := by decide +kernel
theorem dX6_constantIn_8 : decode cX6_constantIn 8 = .ok (.aload_n 1, 1) := by decide +kernel
theorem dX6_constantIn_9 : decode cX6_constantIn 9 = .ok (.iconst 0, 1) := by decide +kernel
theorem dX6_constantIn_10 : decode cX6_constantIn 10 = .ok (.aload_n 0, 1) := by decide +kernel
theorem dX6_constantIn_11 : decode cX6_constantIn 11 = .ok (.getfield 18, 3) := by decide +kernel
theorem dX6_constantIn_14 : decode cX6_constantIn 14 = .ok (.invokevirtual 69, 3) := by decide +kernel
theorem dX6_constantIn_17 : decode cX6_constantIn 17 = .ok (.astore_n 2, 1) := by decide +kernel
theorem dX6_constantIn_18 : decode cX6_constantIn 18 = .ok (.aload_n 2, 1) := by decide +kernel
theorem dX6_constantIn_19 : decode cX6_constantIn 19 = .ok (.ifnull 10, 3) := by decide +kernel
theorem dX6_constantIn_22 : decode cX6_constantIn 22 = .ok (.aload_n 2, 1) := by decide +kernel
theorem dX6_constantIn_23 : decode cX6_constantIn 23 = .ok (.getfield 75, 3) := by decide +kernel
theorem dX6_constantIn_26 : decode cX6_constantIn 26 = .ok (.ifCond .ne 7, 3) := by decide +kernel
theorem dX6_constantIn_29 : decode cX6_constantIn 29 = .ok (.iconst (-1), 1) := by decide +kernel
theorem dX6_constantIn_30 : decode cX6_constantIn 30 = .ok (.goto 7, 3) := by decide +kernel
theorem dX6_constantIn_33 : decode cX6_constantIn 33 = .ok (.aload_n 2, 1) := by decide +kernel
theorem dX6_constantIn_34 : decode cX6_constantIn 34 = .ok (.getfield 81, 3) := by decide +kernel
theorem dX6_constantIn_37 : decode cX6_constantIn 37 = .ok (.ireturn, 1) := by decide +kernel
theorem dX6_hindranceToReach_0 : decode cX6_hindranceToReach 0 = .ok (.aload_n 1, 1) := by decide +kernel
theorem dX6_hindranceToReach_1 : decode cX6_hindranceToReach 1 = .ok (.aload_n 0, 1) := by decide +kernel
theorem dX6_hindranceToReach_2 : decode cX6_hindranceToReach 2 = .ok (.getfield 15, 3) := by decide +kernel
theorem dX6_hindranceToReach_5 : decode cX6_hindranceToReach 5 = .ok (.invokevirtual 30, 3) := by decide +kernel
theorem dX6_hindranceToReach_8 : decode cX6_hindranceToReach 8 = .ok (.astore 4, 2) := by decide +kernel
theorem dX6_hindranceToReach_10 : decode cX6_hindranceToReach 10 = .ok (.aload 4, 2) := by decide +kernel
theorem dX6_hindranceToReach_12 : decode cX6_hindranceToReach 12 = .ok (.ifnull 21, 3) := by decide +kernel
theorem dX6_hindranceToReach_15 : decode cX6_hindranceToReach 15 = .ok (.aload_n 0, 1) := by decide +kernel
theorem dX6_hindranceToReach_16 : decode cX6_hindranceToReach 16 = .ok (.invokevirtual 59, 3) := by decide +kernel
theorem dX6_hindranceToReach_19 : decode cX6_hindranceToReach 19 = .ok (.ifCond .eq 16, 3) := by decide +kernel
theorem dX6_hindranceToReach_22 : decode cX6_hindranceToReach 22 = .ok (.aload_n 1, 1) := by decide +kernel
theorem dX6_hindranceToReach_23 : decode cX6_hindranceToReach 23 = .ok (.aload_n 0, 1) := by decide +kernel
theorem dX6_hindranceToReach_24 : decode cX6_hindranceToReach 24 = .ok (.getfield 21, 3) := by decide +kernel
theorem dX6_hindranceToReach_27 : decode cX6_hindranceToReach 27 = .ok (.invokevirtual 30, 3) := by decide +kernel
theorem dX6_hindranceToReach_30 : decode cX6_hindranceToReach 30 = .ok (.ifnonnull 5, 3) := by decide +kernel
theorem dX6_hindranceToReach_33 : decode cX6_hindranceToReach 33 = .ok (.iconst 1, 1) := by decide +kernel
theorem dX6_hindranceToReach_34 : decode cX6_hindranceToReach 34 = .ok (.ireturn, 1) := by decide +kernel
theorem dX6_hindranceToReach_35 : decode cX6_hindranceToReach 35 = .ok (.aload 4, 2) := by decide +kernel
theorem dX6_hindranceToReach_37 : decode cX6_hindranceToReach 37 = .ok (.getfield 84, 3) := by decide +kernel
theorem dX6_hindranceToReach_40 : decode cX6_hindranceToReach 40 = .ok (.ifCond .ne 17, 3) := by decide +kernel
theorem dX6_hindranceToReach_43 : decode cX6_hindranceToReach 43 = .ok (.aload 4, 2) := by decide +kernel
theorem dX6_hindranceToReach_45 : decode cX6_hindranceToReach 45 = .ok (.getfield 87, 3) := by decide +kernel
theorem dX6_hindranceToReach_48 : decode cX6_hindranceToReach 48 = .ok (.aload_n 2, 1) := by decide +kernel
theorem dX6_hindranceToReach_49 : decode cX6_hindranceToReach 49 = .ok (.getfield 90, 3) := by decide +kernel
theorem dX6_hindranceToReach_52 : decode cX6_hindranceToReach 52 = .ok (.if_icmp .eq 5, 3) := by decide +kernel
theorem dX6_hindranceToReach_55 : decode cX6_hindranceToReach 55 = .ok (.iconst 3, 1) := by decide +kernel
theorem dX6_hindranceToReach_56 : decode cX6_hindranceToReach 56 = .ok (.ireturn, 1) := by decide +kernel
theorem dX6_hindranceToReach_57 : decode cX6_hindranceToReach 57 = .ok (.aload_n 0, 1) := by decide +kernel
theorem dX6_hindranceToReach_58 : decode cX6_hindranceToReach 58 = .ok (.invokevirtual 59, 3) := by decide +kernel
theorem dX6_hindranceToReach_61 : decode cX6_hindranceToReach 61 = .ok (.ifCond .eq 27, 3) := by decide +kernel
theorem dX6_hindranceToReach_64 : decode cX6_hindranceToReach 64 = .ok (.aload 4, 2) := by decide +kernel
theorem dX6_hindranceToReach_66 : decode cX6_hindranceToReach 66 = .ok (.getfield 93, 3) := by decide +kernel
theorem dX6_hindranceToReach_69 : decode cX6_hindranceToReach 69 = .ok (.aload_n 0, 1) := by decide +kernel
theorem dX6_hindranceToReach_70 : decode cX6_hindranceToReach 70 = .ok (.getfield 9, 3) := by decide +kernel
theorem dX6_hindranceToReach_73 : decode cX6_hindranceToReach 73 = .ok (.iconst 4, 1) := by decide +kernel
theorem dX6_hindranceToReach_74 : decode cX6_hindranceToReach 74 = .ok (.if_icmp .ne 7, 3) := by decide +kernel
theorem dX6_hindranceToReach_77 : decode cX6_hindranceToReach 77 = .ok (.iconst 1, 1) := by decide +kernel
theorem dX6_hindranceToReach_78 : decode cX6_hindranceToReach 78 = .ok (.goto 4, 3) := by decide +kernel
theorem dX6_hindranceToReach_81 : decode cX6_hindranceToReach 81 = .ok (.iconst 0, 1) := by decide +kernel
theorem dX6_hindranceToReach_82 : decode cX6_hindranceToReach 82 = .ok (.if_icmp .eq 6, 3) := by decide +kernel
theorem dX6_hindranceToReach_85 : decode cX6_hindranceToReach 85 = .ok (.bipush 6, 2) := by decide +kernel
theorem dX6_hindranceToReach_87 : decode cX6_hindranceToReach 87 = .ok (.ireturn, 1) := by decide +kernel
theorem dX6_hindranceToReach_88 : decode cX6_hindranceToReach 88 = .ok (.aload_n 0, 1) := by decide +kernel
theorem dX6_hindranceToReach_89 : decode cX6_hindranceToReach 89 = .ok (.getfield 9, 3) := by decide +kernel
theorem dX6_hindranceToReach_92 : decode cX6_hindranceToReach 92 = .ok (.iconst 5, 1) := by decide +kernel
theorem dX6_hindranceToReach_93 : decode cX6_hindranceToReach 93 = .ok (.if_icmp .ne 17, 3) := by decide +kernel
theorem dX6_hindranceToReach_96 : decode cX6_hindranceToReach 96 = .ok (.aload 4, 2) := by decide +kernel
theorem dX6_hindranceToReach_98 : decode cX6_hindranceToReach 98 = .ok (.getfield 96, 3) := by decide +kernel
theorem dX6_hindranceToReach_101 : decode cX6_hindranceToReach 101 = .ok (.ifCond .eq 7, 3) := by decide +kernel
theorem dX6_hindranceToReach_104 : decode cX6_hindranceToReach 104 = .ok (.iconst 5, 1) := by decide +kernel
theorem dX6_hindranceToReach_105 : decode cX6_hindranceToReach 105 = .ok (.goto 4, 3) := by decide +kernel
theorem dX6_hindranceToReach_108 : decode cX6_hindranceToReach 108 = .ok (.iconst 0, 1) := by decide +kernel
theorem dX6_hindranceToReach_109 : decode cX6_hindranceToReach 109 = .ok (.ireturn, 1) := by decide +kernel
theorem dX6_hindranceToReach_110 : decode cX6_hindranceToReach 110 = .ok (.aload_n 3, 1) := by decide +kernel
theorem dX6_hindranceToReach_111 : decode cX6_hindranceToReach 111 = .ok (.ifnonnull 7, 3) := by decide +kernel
theorem dX6_hindranceToReach_114 : decode cX6_hindranceToReach 114 = .ok (.aconst_null, 1) := by decide +kernel
theorem dX6_hindranceToReach_115 : decode cX6_hindranceToReach 115 = .ok (.goto 15, 3) := by decide +kernel
theorem dX6_hindranceToReach_118 : decode cX6_hindranceToReach 118 = .ok (.aload_n 3, 1) := by decide +kernel
theorem dX6_hindranceToReach_119 : decode cX6_hindranceToReach 119 = .ok (.aload_n 0, 1) := by decide +kernel
theorem dX6_hindranceToReach_120 : decode cX6_hindranceToReach 120 = .ok (.invokevirtual 36, 3) := by decide +kernel
theorem dX6_hindranceToReach_123 : decode cX6_hindranceToReach 123 = .ok (.aload_n 0, 1) := by decide +kernel
theorem dX6_hindranceToReach_124 : decode cX6_hindranceToReach 124 = .ok (.getfield 18, 3) := by decide +kernel
theorem dX6_hindranceToReach_127 : decode cX6_hindranceToReach 127 = .ok (.invokevirtual 69, 3) := by decide +kernel
theorem dX6_hindranceToReach_130 : decode cX6_hindranceToReach 130 = .ok (.astore 5, 2) := by decide +kernel
theorem dX6_hindranceToReach_132 : decode cX6_hindranceToReach 132 = .ok (.aload 5, 2) := by decide +kernel
theorem dX6_hindranceToReach_134 : decode cX6_hindranceToReach 134 = .ok (.ifnonnull 5, 3) := by decide +kernel
theorem dX6_hindranceToReach_137 : decode cX6_hindranceToReach 137 = .ok (.iconst 2, 1) := by decide +kernel
theorem dX6_hindranceToReach_138 : decode cX6_hindranceToReach 138 = .ok (.ireturn, 1) := by decide +kernel
theorem dX6_hindranceToReach_139 : decode cX6_hindranceToReach 139 = .ok (.aload_n 2, 1) := by decide +kernel
theorem dX6_hindranceToReach_140 : decode cX6_hindranceToReach 140 = .ok (.aload_n 1, 1) := by decide +kernel
theorem dX6_hindranceToReach_141 : decode cX6_hindranceToReach 141 = .ok (.aload_n 3, 1) := by decide +kernel
theorem dX6_hindranceToReach_142 : decode cX6_hindranceToReach 142 = .ok (.aload 5, 2) := by decide +kernel
theorem dX6_hindranceToReach_144 : decode cX6_hindranceToReach 144 = .ok (.invokevirtual 99, 3) := by decide +kernel
theorem dX6_hindranceToReach_147 : decode cX6_hindranceToReach 147 = .ok (.ifCond .ne 5, 3) := by decide +kernel
theorem dX6_hindranceToReach_150 : decode cX6_hindranceToReach 150 = .ok (.iconst 3, 1) := by decide +kernel
theorem dX6_hindranceToReach_151 : decode cX6_hindranceToReach 151 = .ok (.ireturn, 1) := by decide +kernel
theorem dX6_hindranceToReach_152 : decode cX6_hindranceToReach 152 = .ok (.aload 5, 2) := by decide +kernel
theorem dX6_hindranceToReach_154 : decode cX6_hindranceToReach 154 = .ok (.getfield 103, 3) := by decide +kernel
theorem dX6_hindranceToReach_157 : decode cX6_hindranceToReach 157 = .ok (.aload_n 0, 1) := by decide +kernel
theorem dX6_hindranceToReach_158 : decode cX6_hindranceToReach 158 = .ok (.invokevirtual 106, 3) := by decide +kernel
theorem dX6_hindranceToReach_161 : decode cX6_hindranceToReach 161 = .ok (.if_icmp .ne 7, 3) := by decide +kernel
theorem dX6_hindranceToReach_164 : decode cX6_hindranceToReach 164 = .ok (.iconst 0, 1) := by decide +kernel
theorem dX6_hindranceToReach_165 : decode cX6_hindranceToReach 165 = .ok (.goto 4, 3) := by decide +kernel
theorem dX6_hindranceToReach_168 : decode cX6_hindranceToReach 168 = .ok (.iconst 4, 1) := by decide +kernel
theorem dX6_hindranceToReach_169 : decode cX6_hindranceToReach 169 = .ok (.ireturn, 1) := by decide +kernel
theorem dX6_hindranceToRun_0 : decode cX6_hindranceToRun 0 = .ok (.aload_n 1, 1) := by decide +kernel
theorem dX6_hindranceToRun_1 : decode cX6_hindranceToRun 1 = .ok (.aload_n 0, 1) := by decide +kernel
theorem dX6_hindranceToRun_2 : decode cX6_hindranceToRun 2 = .ok (.getfield 21, 3) := by decide +kernel
theorem dX6_hindranceToRun_5 : decode cX6_hindranceToRun 5 = .ok (.invokevirtual 30, 3) := by decide +kernel
theorem dX6_hindranceToRun_8 : decode cX6_hindranceToRun 8 = .ok (.astore_n 3, 1) := by decide +kernel
theorem dX6_hindranceToRun_9 : decode cX6_hindranceToRun 9 = .ok (.aload_n 3, 1) := by decide +kernel
theorem dX6_hindranceToRun_10 : decode cX6_hindranceToRun 10 = .ok (.ifnonnull 5, 3) := by decide +kernel
theorem dX6_hindranceToRun_13 : decode cX6_hindranceToRun 13 = .ok (.iconst 1, 1) := by decide +kernel
theorem dX6_hindranceToRun_14 : decode cX6_hindranceToRun 14 = .ok (.ireturn, 1) := by decide +kernel
theorem dX6_hindranceToRun_15 : decode cX6_hindranceToRun 15 = .ok (.aload_n 3, 1) := by decide +kernel
theorem dX6_hindranceToRun_16 : decode cX6_hindranceToRun 16 = .ok (.getfield 93, 3) := by decide +kernel
theorem dX6_hindranceToRun_19 : decode cX6_hindranceToRun 19 = .ok (.ifCond .ne 36, 3) := by decide +kernel
theorem dX6_hindranceToRun_22 : decode cX6_hindranceToRun 22 = .ok (.aload_n 3, 1) := by decide +kernel
theorem dX6_hindranceToRun_23 : decode cX6_hindranceToRun 23 = .ok (.getfield 96, 3) := by decide +kernel
theorem dX6_hindranceToRun_26 : decode cX6_hindranceToRun 26 = .ok (.ifCond .ne 29, 3) := by decide +kernel
theorem dX6_hindranceToRun_29 : decode cX6_hindranceToRun 29 = .ok (.aload_n 0, 1) := by decide +kernel
theorem dX6_hindranceToRun_30 : decode cX6_hindranceToRun 30 = .ok (.getfield 21, 3) := by decide +kernel
theorem dX6_hindranceToRun_33 : decode cX6_hindranceToRun 33 = .ok (.aload_n 0, 1) := by decide +kernel
theorem dX6_hindranceToRun_34 : decode cX6_hindranceToRun 34 = .ok (.getfield 15, 3) := by decide +kernel
theorem dX6_hindranceToRun_37 : decode cX6_hindranceToRun 37 = .ok (.if_icmp .eq 21, 3) := by decide +kernel
theorem dX6_hindranceToRun_40 : decode cX6_hindranceToRun 40 = .ok (.aload_n 1, 1) := by decide +kernel
theorem dX6_hindranceToRun_41 : decode cX6_hindranceToRun 41 = .ok (.aload_n 0, 1) := by decide +kernel
theorem dX6_hindranceToRun_42 : decode cX6_hindranceToRun 42 = .ok (.getfield 15, 3) := by decide +kernel
theorem dX6_hindranceToRun_45 : decode cX6_hindranceToRun 45 = .ok (.aload_n 0, 1) := by decide +kernel
theorem dX6_hindranceToRun_46 : decode cX6_hindranceToRun 46 = .ok (.getfield 21, 3) := by decide +kernel
theorem dX6_hindranceToRun_49 : decode cX6_hindranceToRun 49 = .ok (.invokevirtual 109, 3) := by decide +kernel
theorem dX6_hindranceToRun_52 : decode cX6_hindranceToRun 52 = .ok (.ifCond .ne 6, 3) := by decide +kernel
theorem dX6_hindranceToRun_55 : decode cX6_hindranceToRun 55 = .ok (.bipush 6, 2) := by decide +kernel
theorem dX6_hindranceToRun_57 : decode cX6_hindranceToRun 57 = .ok (.ireturn, 1) := by decide +kernel
theorem dX6_hindranceToRun_58 : decode cX6_hindranceToRun 58 = .ok (.aload_n 2, 1) := by decide +kernel
theorem dX6_hindranceToRun_59 : decode cX6_hindranceToRun 59 = .ok (.ifnonnull 7, 3) := by decide +kernel
theorem dX6_hindranceToRun_62 : decode cX6_hindranceToRun 62 = .ok (.aconst_null, 1) := by decide +kernel
theorem dX6_hindranceToRun_63 : decode cX6_hindranceToRun 63 = .ok (.goto 12, 3) := by decide +kernel
theorem dX6_hindranceToRun_66 : decode cX6_hindranceToRun 66 = .ok (.aload_n 2, 1) := by decide +kernel
theorem dX6_hindranceToRun_67 : decode cX6_hindranceToRun 67 = .ok (.iconst 1, 1) := by decide +kernel
theorem dX6_hindranceToRun_68 : decode cX6_hindranceToRun 68 = .ok (.aload_n 0, 1) := by decide +kernel
theorem dX6_hindranceToRun_69 : decode cX6_hindranceToRun 69 = .ok (.getfield 18, 3) := by decide +kernel
theorem dX6_hindranceToRun_72 : decode cX6_hindranceToRun 72 = .ok (.invokevirtual 69, 3) := by decide +kernel
theorem dX6_hindranceToRun_75 : decode cX6_hindranceToRun 75 = .ok (.astore 4, 2) := by decide +kernel
theorem dX6_hindranceToRun_77 : decode cX6_hindranceToRun 77 = .ok (.aload 4, 2) := by decide +kernel
theorem dX6_hindranceToRun_79 : decode cX6_hindranceToRun 79 = .ok (.ifnull 11, 3) := by decide +kernel
theorem dX6_hindranceToRun_82 : decode cX6_hindranceToRun 82 = .ok (.aload 4, 2) := by decide +kernel
theorem dX6_hindranceToRun_84 : decode cX6_hindranceToRun 84 = .ok (.invokevirtual 113, 3) := by decide +kernel
theorem dX6_hindranceToRun_87 : decode cX6_hindranceToRun 87 = .ok (.ifCond .eq 5, 3) := by decide +kernel
theorem dX6_hindranceToRun_90 : decode cX6_hindranceToRun 90 = .ok (.iconst 5, 1) := by decide +kernel
theorem dX6_hindranceToRun_91 : decode cX6_hindranceToRun 91 = .ok (.ireturn, 1) := by decide +kernel
theorem dX6_hindranceToRun_92 : decode cX6_hindranceToRun 92 = .ok (.aload_n 0, 1) := by decide +kernel
theorem dX6_hindranceToRun_93 : decode cX6_hindranceToRun 93 = .ok (.getfield 9, 3) := by decide +kernel
theorem dX6_hindranceToRun_96 : decode cX6_hindranceToRun 96 = .ok (.iconst 4, 1) := by decide +kernel
theorem dX6_hindranceToRun_97 : decode cX6_hindranceToRun 97 = .ok (.if_icmp .ne 16, 3) := by decide +kernel
theorem dX6_hindranceToRun_100 : decode cX6_hindranceToRun 100 = .ok (.aload 4, 2) := by decide +kernel
theorem dX6_hindranceToRun_102 : decode cX6_hindranceToRun 102 = .ok (.getfield 115, 3) := by decide +kernel
theorem dX6_hindranceToRun_105 : decode cX6_hindranceToRun 105 = .ok (.iconst 3, 1) := by decide +kernel
theorem dX6_hindranceToRun_106 : decode cX6_hindranceToRun 106 = .ok (.if_icmp .eq 7, 3) := by decide +kernel
theorem dX6_hindranceToRun_109 : decode cX6_hindranceToRun 109 = .ok (.iconst 3, 1) := by decide +kernel
theorem dX6_hindranceToRun_110 : decode cX6_hindranceToRun 110 = .ok (.goto 4, 3) := by decide +kernel
theorem dX6_hindranceToRun_113 : decode cX6_hindranceToRun 113 = .ok (.iconst 0, 1) := by decide +kernel
theorem dX6_hindranceToRun_114 : decode cX6_hindranceToRun 114 = .ok (.ireturn, 1) := by decide +kernel
