theorem dX4_init_0 : decode cX4_init 0 = .ok (.aload_n 0, 1) := by decide +kernel
theorem dX4_init_1 : decode cX4_init 1 = .ok (.invokespecial 3, 3) := by decide +kernel
theorem dX4_init_4 : decode cX4_init 4 = .ok (.aload_n 0, 1) := by decide +kernel
theorem dX4_init_5 : decode cX4_init 5 = .ok (.new 9, 3) := by decide +kernel
theorem dX4_init_8 : decode cX4_init 8 = .ok (.dup, 1) := by decide +kernel
theorem dX4_init_9 : decode cX4_init 9 = .ok (.invokespecial 11, 3) := by decide +kernel
theorem dX4_init_12 : decode cX4_init 12 = .ok (.putfield 12, 3) := by decide +kernel
theorem dX4_init_15 : decode cX4_init 15 = .ok (.aload_n 0, 1) := by decide +kernel
theorem dX4_init_16 : decode cX4_init 16 = .ok (.new 18, 3) := by decide +kernel
theorem dX4_init_19 : decode cX4_init 19 = .ok (.dup, 1) := by decide +kernel
theorem dX4_init_20 : decode cX4_init 20 = .ok (.invokespecial 20, 3) := by decide +kernel
theorem dX4_init_23 : decode cX4_init 23 = .ok (.putfield 21, 3) := by decide +kernel
theorem dX4_init_26 : decode cX4_init 26 = .ok (.return_, 1) := by decide +kernel
theorem dX4_allFit_0 : decode cX4_allFit 0 = .ok (.iconst 0, 1) := by decide +kernel
theorem dX4_allFit_1 : decode cX4_allFit 1 = .ok (.istore_n 3, 1) := by decide +kernel
theorem dX4_allFit_2 : decode cX4_allFit 2 = .ok (.iload_n 3, 1) := by decide +kernel
theorem dX4_allFit_3 : decode cX4_allFit 3 = .ok (.aload_n 1, 1) := by decide +kernel
theorem dX4_allFit_4 : decode cX4_allFit 4 = .ok (.getfield 25, 3) := by decide +kernel
theorem dX4_allFit_7 : decode cX4_allFit 7 = .ok (.if_icmp .ge 54, 3) := by decide +kernel
theorem dX4_allFit_10 : decode cX4_allFit 10 = .ok (.aload_n 1, 1) := by decide +kernel
theorem dX4_allFit_11 : decode cX4_allFit 11 = .ok (.getfield 31, 3) := by decide +kernel
theorem dX4_allFit_14 : decode cX4_allFit 14 = .ok (.iload_n 3, 1) := by decide +kernel
theorem dX4_allFit_15 : decode cX4_allFit 15 = .ok (.aaload, 1) := by decide +kernel
theorem dX4_allFit_16 : decode cX4_allFit 16 = .ok (.astore 4, 2) := by decide +kernel
theorem dX4_allFit_18 : decode cX4_allFit 18 = .ok (.aload_n 0, 1) := by decide +kernel
theorem dX4_allFit_19 : decode cX4_allFit 19 = .ok (.aload_n 1, 1) := by decide +kernel
theorem dX4_allFit_20 : decode cX4_allFit 20 = .ok (.aload_n 2, 1) := by decide +kernel
theorem dX4_allFit_21 : decode cX4_allFit 21 = .ok (.aload 4, 2) := by decide +kernel
theorem dX4_allFit_23 : decode cX4_allFit 23 = .ok (.invokevirtual 35, 3) := by decide +kernel
theorem dX4_allFit_26 : decode cX4_allFit 26 = .ok (.ifCond .eq 27, 3) := by decide +kernel
theorem dX4_allFit_29 : decode cX4_allFit 29 = .ok (.aload_n 0, 1) := by decide +kernel
theorem dX4_allFit_30 : decode cX4_allFit 30 = .ok (.aload_n 1, 1) := by decide +kernel
theorem dX4_allFit_31 : decode cX4_allFit 31 = .ok (.aload_n 2, 1) := by decide +kernel
theorem dX4_allFit_32 : decode cX4_allFit 32 = .ok (.aload 4, 2) := by decide +kernel
theorem dX4_allFit_34 : decode cX4_allFit 34 = .ok (.iconst 0, 1) := by decide +kernel
theorem dX4_allFit_35 : decode cX4_allFit 35 = .ok (.invokevirtual 39, 3) := by decide +kernel
theorem dX4_allFit_38 : decode cX4_allFit 38 = .ok (.ifCond .eq 15, 3) := by decide +kernel
theorem dX4_allFit_41 : decode cX4_allFit 41 = .ok (.aload_n 0, 1) := by decide +kernel
theorem dX4_allFit_42 : decode cX4_allFit 42 = .ok (.aload_n 1, 1) := by decide +kernel
theorem dX4_allFit_43 : decode cX4_allFit 43 = .ok (.aload_n 2, 1) := by decide +kernel
theorem dX4_allFit_44 : decode cX4_allFit 44 = .ok (.aload 4, 2) := by decide +kernel
theorem dX4_allFit_46 : decode cX4_allFit 46 = .ok (.iconst 1, 1) := by decide +kernel
theorem dX4_allFit_47 : decode cX4_allFit 47 = .ok (.invokevirtual 39, 3) := by decide +kernel
theorem dX4_allFit_50 : decode cX4_allFit 50 = .ok (.ifCond .ne 5, 3) := by decide +kernel
theorem dX4_allFit_53 : decode cX4_allFit 53 = .ok (.iconst 0, 1) := by decide +kernel
theorem dX4_allFit_54 : decode cX4_allFit 54 = .ok (.ireturn, 1) := by decide +kernel
theorem dX4_allFit_55 : decode cX4_allFit 55 = .ok (.iinc 3 1, 3) := by decide +kernel
theorem dX4_allFit_58 : decode cX4_allFit 58 = .ok (.goto (-56), 3) := by decide +kernel
theorem dX4_allFit_61 : decode cX4_allFit 61 = .ok (.iconst 1, 1) := by decide +kernel
theorem dX4_allFit_62 : decode cX4_allFit 62 = .ok (.ireturn, 1) := by decide +kernel
theorem dX4_newObjectsFit_0 : decode cX4_newObjectsFit 0 = .ok (.aload_n 0, 1) := by decide +kernel
theorem dX4_newObjectsFit_1 : decode cX4_newObjectsFit 1 = .ok (.getfield 21, 3) := by decide +kernel
theorem dX4_newObjectsFit_4 : decode cX4_newObjectsFit 4 = .ok (.iconst 5, 1) := by decide +kernel
theorem dX4_newObjectsFit_5 : decode cX4_newObjectsFit 5 = .ok (.aload_n 3, 1) := by decide +kernel
theorem dX4_newObjectsFit_6 : decode cX4_newObjectsFit 6 = .ok (.getfield 43, 3) := by decide +kernel
theorem dX4_newObjectsFit_9 : decode cX4_newObjectsFit 9 = .ok (.iconst (-1), 1) := by decide +kernel
theorem dX4_newObjectsFit_10 : decode cX4_newObjectsFit 10 = .ok (.iconst (-1), 1) := by decide +kernel
theorem dX4_newObjectsFit_11 : decode cX4_newObjectsFit 11 = .ok (.invokevirtual 48, 3) := by decide +kernel
theorem dX4_newObjectsFit_14 : decode cX4_newObjectsFit 14 = .ok (.aload_n 0, 1) := by decide +kernel
theorem dX4_newObjectsFit_15 : decode cX4_newObjectsFit 15 = .ok (.aload_n 1, 1) := by decide +kernel
theorem dX4_newObjectsFit_16 : decode cX4_newObjectsFit 16 = .ok (.aload_n 2, 1) := by decide +kernel
theorem dX4_newObjectsFit_17 : decode cX4_newObjectsFit 17 = .ok (.aconst_null, 1) := by decide +kernel
theorem dX4_newObjectsFit_18 : decode cX4_newObjectsFit 18 = .ok (.aconst_null, 1) := by decide +kernel
theorem dX4_newObjectsFit_19 : decode cX4_newObjectsFit 19 = .ok (.invokevirtual 52, 3) := by decide +kernel
theorem dX4_newObjectsFit_22 : decode cX4_newObjectsFit 22 = .ok (.ireturn, 1) := by decide +kernel
theorem dX4_membersFit_0 : decode cX4_membersFit 0 = .ok (.aload_n 1, 1) := by decide +kernel
theorem dX4_membersFit_1 : decode cX4_membersFit 1 = .ok (.aload_n 3, 1) := by decide +kernel
theorem dX4_membersFit_2 : decode cX4_membersFit 2 = .ok (.iload 4, 2) := by decide +kernel
theorem dX4_membersFit_4 : decode cX4_membersFit 4 = .ok (.invokestatic 56, 3) := by decide +kernel
theorem dX4_membersFit_7 : decode cX4_membersFit 7 = .ok (.lstore 5, 2) := by decide +kernel
theorem dX4_membersFit_9 : decode cX4_membersFit 9 = .ok (.iconst 0, 1) := by decide +kernel
theorem dX4_membersFit_10 : decode cX4_membersFit 10 = .ok (.istore 7, 2) := by decide +kernel
theorem dX4_membersFit_12 : decode cX4_membersFit 12 = .ok (.lload 5, 2) := by decide +kernel
theorem dX4_membersFit_14 : decode cX4_membersFit 14 = .ok (.lconst 0, 1) := by decide +kernel
theorem dX4_membersFit_15 : decode cX4_membersFit 15 = .ok (.lcmp, 1) := by decide +kernel
theorem dX4_membersFit_16 : decode cX4_membersFit 16 = .ok (.ifCond .eq 118, 3) := by decide +kernel
theorem dX4_membersFit_19 : decode cX4_membersFit 19 = .ok (.iload 7, 2) := by decide +kernel
theorem dX4_membersFit_21 : decode cX4_membersFit 21 = .ok (.bipush 64, 2) := by decide +kernel
theorem dX4_membersFit_23 : decode cX4_membersFit 23 = .ok (.if_icmp .ge 111, 3) := by decide +kernel
theorem dX4_membersFit_26 : decode cX4_membersFit 26 = .ok (.lload 5, 2) := by decide +kernel
theorem dX4_membersFit_28 : decode cX4_membersFit 28 = .ok (.iload 7, 2) := by decide +kernel
theorem dX4_membersFit_30 : decode cX4_membersFit 30 = .ok (.invokestatic 60, 3) := by decide +kernel
theorem dX4_membersFit_33 : decode cX4_membersFit 33 = .ok (.ifCond .eq 15, 3) := by decide +kernel
theorem dX4_membersFit_36 : decode cX4_membersFit 36 = .ok (.aload_n 1, 1) := by decide +kernel
theorem dX4_membersFit_37 : decode cX4_membersFit 37 = .ok (.aload_n 3, 1) := by decide +kernel
theorem dX4_membersFit_38 : decode cX4_membersFit 38 = .ok (.iload 4, 2) := by decide +kernel
theorem dX4_membersFit_40 : decode cX4_membersFit 40 = .ok (.iload 7, 2) := by decide +kernel
theorem dX4_membersFit_42 : decode cX4_membersFit 42 = .ok (.invokevirtual 64, 3) := by decide +kernel
theorem dX4_membersFit_45 : decode cX4_membersFit 45 = .ok (.goto 4, 3) := by decide +kernel
theorem dX4_membersFit_48 : decode cX4_membersFit 48 = .ok (.aconst_null, 1) := by decide +kernel
theorem dX4_membersFit_49 : decode cX4_membersFit 49 = .ok (.astore 8, 2) := by decide +kernel
theorem dX4_membersFit_51 : decode cX4_membersFit 51 = .ok (.aload 8, 2) := by decide +kernel
theorem dX4_membersFit_53 : decode cX4_membersFit 53 = .ok (.ifnonnull 7, 3) := by decide +kernel
theorem dX4_membersFit_56 : decode cX4_membersFit 56 = .ok (.aconst_null, 1) := by decide +kernel
theorem dX4_membersFit_57 : decode cX4_membersFit 57 = .ok (.goto 12, 3) := by decide +kernel
theorem dX4_membersFit_60 : decode cX4_membersFit 60 = .ok (.aload 8, 2) := by decide +kernel
theorem dX4_membersFit_62 : decode cX4_membersFit 62 = .ok (.iload 4, 2) := by decide +kernel
theorem dX4_membersFit_64 : decode cX4_membersFit 64 = .ok (.iload 7, 2) := by decide +kernel
theorem dX4_membersFit_66 : decode cX4_membersFit 66 = .ok (.invokevirtual 68, 3) := by decide +kernel
theorem dX4_membersFit_69 : decode cX4_membersFit 69 = .ok (.astore 9, 2) := by decide +kernel
theorem dX4_membersFit_71 : decode cX4_membersFit 71 = .ok (.aload 9, 2) := by decide +kernel
theorem dX4_membersFit_73 : decode cX4_membersFit 73 = .ok (.ifnull 55, 3) := by decide +kernel
theorem dX4_membersFit_76 : decode cX4_membersFit 76 = .ok (.aload 9, 2) := by decide +kernel
theorem dX4_membersFit_78 : decode cX4_membersFit 78 = .ok (.getfield 72, 3) := by decide +kernel
theorem dX4_membersFit_81 : decode cX4_membersFit 81 = .ok (.ifCond .ne 47, 3) := by decide +kernel
theorem dX4_membersFit_84 : decode cX4_membersFit 84 = .ok (.aload_n 0, 1) := by decide +kernel
theorem dX4_membersFit_85 : decode cX4_membersFit 85 = .ok (.getfield 21, 3) := by decide +kernel
theorem dX4_membersFit_88 : decode cX4_membersFit 88 = .ok (.aload_n 3, 1) := by decide +kernel
theorem dX4_membersFit_89 : decode cX4_membersFit 89 = .ok (.aload 9, 2) := by decide +kernel
theorem dX4_membersFit_91 : decode cX4_membersFit 91 = .ok (.invokestatic 78, 3) := by decide +kernel
theorem dX4_membersFit_94 : decode cX4_membersFit 94 = .ok (.aload_n 3, 1) := by decide +kernel
theorem dX4_membersFit_95 : decode cX4_membersFit 95 = .ok (.getfield 43, 3) := by decide +kernel
theorem dX4_membersFit_98 : decode cX4_membersFit 98 = .ok (.iload 7, 2) := by decide +kernel
theorem dX4_membersFit_100 : decode cX4_membersFit 100 = .ok (.aload_n 3, 1) := by decide +kernel
theorem dX4_membersFit_101 : decode cX4_membersFit 101 = .ok (.getfield 43, 3) := by decide +kernel
theorem dX4_membersFit_104 : decode cX4_membersFit 104 = .ok (.invokevirtual 48, 3) := by decide +kernel
theorem dX4_membersFit_107 : decode cX4_membersFit 107 = .ok (.aload_n 0, 1) := by decide +kernel
theorem dX4_membersFit_108 : decode cX4_membersFit 108 = .ok (.aload_n 1, 1) := by decide +kernel
theorem dX4_membersFit_109 : decode cX4_membersFit 109 = .ok (.aload_n 2, 1) := by decide +kernel
theorem dX4_membersFit_110 : decode cX4_membersFit 110 = .ok (.aload 8, 2) := by decide +kernel
theorem dX4_membersFit_112 : decode cX4_membersFit 112 = .ok (.aload_n 0, 1) := by decide +kernel
theorem dX4_membersFit_113 : decode cX4_membersFit 113 = .ok (.getfield 21, 3) := by decide +kernel
theorem dX4_membersFit_116 : decode cX4_membersFit 116 = .ok (.aload_n 2, 1) := by decide +kernel
theorem dX4_membersFit_117 : decode cX4_membersFit 117 = .ok (.invokevirtual 82, 3) := by decide +kernel
theorem dX4_membersFit_120 : decode cX4_membersFit 120 = .ok (.invokevirtual 52, 3) := by decide +kernel
theorem dX4_membersFit_123 : decode cX4_membersFit 123 = .ok (.ifCond .ne 5, 3) := by decide +kernel
theorem dX4_membersFit_126 : decode cX4_membersFit 126 = .ok (.iconst 0, 1) := by decide +kernel
theorem dX4_membersFit_127 : decode cX4_membersFit 127 = .ok (.ireturn, 1) := by decide +kernel
theorem dX4_membersFit_128 : decode cX4_membersFit 128 = .ok (.iinc 7 1, 3) := by decide +kernel
theorem dX4_membersFit_131 : decode cX4_membersFit 131 = .ok (.goto (-119), 3) := by decide +kernel
theorem dX4_membersFit_134 : decode cX4_membersFit 134 = .ok (.iconst 1, 1) := by decide +kernel
theorem dX4_membersFit_135 : decode cX4_membersFit 135 = .ok (.ireturn, 1) := by decide +kernel
theorem dX4_keysFrom_0 : decode cX4_keysFrom 0 = .ok (.aload_n 1, 1) := by decide +kernel
theorem dX4_keysFrom_1 : decode cX4_keysFrom 1 = .ok (.iload_n 2, 1) := by decide +kernel
theorem dX4_keysFrom_2 : decode cX4_keysFrom 2 = .ok (.invokevirtual 86, 3) := by decide +kernel
theorem dX4_keysFrom_5 : decode cX4_keysFrom 5 = .ok (.lstore_n 3, 1) := by decide +kernel
theorem dX4_keysFrom_6 : decode cX4_keysFrom 6 = .ok (.iconst 0, 1) := by decide +kernel
theorem dX4_keysFrom_7 : decode cX4_keysFrom 7 = .ok (.istore 5, 2) := by decide +kernel
theorem dX4_keysFrom_9 : decode cX4_keysFrom 9 = .ok (.iload 5, 2) := by decide +kernel
theorem dX4_keysFrom_11 : decode cX4_keysFrom 11 = .ok (.aload_n 1, 1) := by decide +kernel
theorem dX4_keysFrom_12 : decode cX4_keysFrom 12 = .ok (.getfield 90, 3) := by decide +kernel
theorem dX4_keysFrom_15 : decode cX4_keysFrom 15 = .ok (.if_icmp .ge 36, 3) := by decide +kernel
theorem dX4_keysFrom_18 : decode cX4_keysFrom 18 = .ok (.aload_n 0, 1) := by decide +kernel
theorem dX4_keysFrom_19 : decode cX4_keysFrom 19 = .ok (.aload_n 1, 1) := by decide +kernel
theorem dX4_keysFrom_20 : decode cX4_keysFrom 20 = .ok (.getfield 93, 3) := by decide +kernel
theorem dX4_keysFrom_23 : decode cX4_keysFrom 23 = .ok (.iload 5, 2) := by decide +kernel
theorem dX4_keysFrom_25 : decode cX4_keysFrom 25 = .ok (.iaload, 1) := by decide +kernel
theorem dX4_keysFrom_26 : decode cX4_keysFrom 26 = .ok (.invokevirtual 97, 3) := by decide +kernel
theorem dX4_keysFrom_29 : decode cX4_keysFrom 29 = .ok (.astore 6, 2) := by decide +kernel
theorem dX4_keysFrom_31 : decode cX4_keysFrom 31 = .ok (.aload 6, 2) := by decide +kernel
theorem dX4_keysFrom_33 : decode cX4_keysFrom 33 = .ok (.ifnull 12, 3) := by decide +kernel
theorem dX4_keysFrom_36 : decode cX4_keysFrom 36 = .ok (.lload_n 3, 1) := by decide +kernel
theorem dX4_keysFrom_37 : decode cX4_keysFrom 37 = .ok (.aload 6, 2) := by decide +kernel
theorem dX4_keysFrom_39 : decode cX4_keysFrom 39 = .ok (.iload_n 2, 1) := by decide +kernel
theorem dX4_keysFrom_40 : decode cX4_keysFrom 40 = .ok (.invokevirtual 86, 3) := by decide +kernel
theorem dX4_keysFrom_43 : decode cX4_keysFrom 43 = .ok (.lor, 1) := by decide +kernel
theorem dX4_keysFrom_44 : decode cX4_keysFrom 44 = .ok (.lstore_n 3, 1) := by decide +kernel
theorem dX4_keysFrom_45 : decode cX4_keysFrom 45 = .ok (.iinc 5 1, 3) := by decide +kernel
theorem dX4_keysFrom_48 : decode cX4_keysFrom 48 = .ok (.goto (-39), 3) := by decide +kernel
theorem dX4_keysFrom_51 : decode cX4_keysFrom 51 = .ok (.lload_n 3, 1) := by decide +kernel
theorem dX4_keysFrom_52 : decode cX4_keysFrom 52 = .ok (.lreturn, 1) := by decide +kernel
theorem dX4_onlyKindFor_0 : decode cX4_onlyKindFor 0 = .ok (.aload_n 1, 1) := by decide +kernel
theorem dX4_onlyKindFor_1 : decode cX4_onlyKindFor 1 = .ok (.getfield 101, 3) := by decide +kernel
theorem dX4_onlyKindFor_4 : decode cX4_onlyKindFor 4 = .ok (.ifCond .ne 16, 3) := by decide +kernel
theorem dX4_onlyKindFor_7 : decode cX4_onlyKindFor 7 = .ok (.aload_n 1, 1) := by decide +kernel
theorem dX4_onlyKindFor_8 : decode cX4_onlyKindFor 8 = .ok (.getfield 104, 3) := by decide +kernel
theorem dX4_onlyKindFor_11 : decode cX4_onlyKindFor 11 = .ok (.ifCond .eq 7, 3) := by decide +kernel
theorem dX4_onlyKindFor_14 : decode cX4_onlyKindFor 14 = .ok (.iconst 1, 1) := by decide +kernel
theorem dX4_onlyKindFor_15 : decode cX4_onlyKindFor 15 = .ok (.goto 4, 3) := by decide +kernel
theorem dX4_onlyKindFor_18 : decode cX4_onlyKindFor 18 = .ok (.iconst 0, 1) := by decide +kernel
theorem dX4_onlyKindFor_19 : decode cX4_onlyKindFor 19 = .ok (.ireturn, 1) := by decide +kernel
theorem dX4_onlyKindFor_20 : decode cX4_onlyKindFor 20 = .ok (.aload_n 1, 1) := by decide +kernel
theorem dX4_onlyKindFor_21 : decode cX4_onlyKindFor 21 = .ok (.getfield 104, 3) := by decide +kernel
theorem dX4_onlyKindFor_24 : decode cX4_onlyKindFor 24 = .ok (.ifCond .eq 5, 3) := by decide +kernel
theorem dX4_onlyKindFor_27 : decode cX4_onlyKindFor 27 = .ok (.iconst 3, 1) := by decide +kernel
theorem dX4_onlyKindFor_28 : decode cX4_onlyKindFor 28 = .ok (.ireturn, 1) := by decide +kernel
theorem dX4_onlyKindFor_29 : decode cX4_onlyKindFor 29 = .ok (.aload_n 0, 1) := by decide +kernel
theorem dX4_onlyKindFor_30 : decode cX4_onlyKindFor 30 = .ok (.getfield 107, 3) := by decide +kernel
theorem dX4_onlyKindFor_33 : decode cX4_onlyKindFor 33 = .ok (.ifCond .eq 7, 3) := by decide +kernel
theorem dX4_onlyKindFor_36 : decode cX4_onlyKindFor 36 = .ok (.iconst 4, 1) := by decide +kernel
theorem dX4_onlyKindFor_37 : decode cX4_onlyKindFor 37 = .ok (.goto 4, 3) := by decide +kernel
theorem dX4_onlyKindFor_40 : decode cX4_onlyKindFor 40 = .ok (.iconst 2, 1) := by decide +kernel
theorem dX4_onlyKindFor_41 : decode cX4_onlyKindFor 41 = .ok (.ireturn, 1) := by decide +kernel
theorem dX4_trialFits_0 : decode cX4_trialFits 0 = .ok (.iconst 0, 1) := by decide +kernel
theorem dX4_trialFits_1 : decode cX4_trialFits 1 = .ok (.istore 5, 2) := by decide +kernel
theorem dX4_trialFits_3 : decode cX4_trialFits 3 = .ok (.iconst 1, 1) := by decide +kernel
theorem dX4_trialFits_4 : decode cX4_trialFits 4 = .ok (.istore 6, 2) := by decide +kernel
theorem dX4_trialFits_6 : decode cX4_trialFits 6 = .ok (.iconst 0, 1) := by decide +kernel
theorem dX4_trialFits_7 : decode cX4_trialFits 7 = .ok (.istore 7, 2) := by decide +kernel
theorem dX4_trialFits_9 : decode cX4_trialFits 9 = .ok (.iload 7, 2) := by decide +kernel
theorem dX4_trialFits_11 : decode cX4_trialFits 11 = .ok (.iconst 5, 1) := by decide +kernel
theorem dX4_trialFits_12 : decode cX4_trialFits 12 = .ok (.if_icmp .ge 71, 3) := by decide +kernel
theorem dX4_trialFits_15 : decode cX4_trialFits 15 = .ok (.aload_n 0, 1) := by decide +kernel
theorem dX4_trialFits_16 : decode cX4_trialFits 16 = .ok (.getfield 12, 3) := by decide +kernel
theorem dX4_trialFits_19 : decode cX4_trialFits 19 = .ok (.aload_n 1, 1) := by decide +kernel
theorem dX4_trialFits_20 : decode cX4_trialFits 20 = .ok (.getfield 110, 3) := by decide +kernel
theorem dX4_trialFits_23 : decode cX4_trialFits 23 = .ok (.iload 7, 2) := by decide +kernel
theorem dX4_trialFits_25 : decode cX4_trialFits 25 = .ok (.iconst (-1), 1) := by decide +kernel
theorem dX4_trialFits_26 : decode cX4_trialFits 26 = .ok (.invokevirtual 113, 3) := by decide +kernel
theorem dX4_trialFits_29 : decode cX4_trialFits 29 = .ok (.aload_n 0, 1) := by decide +kernel
theorem dX4_trialFits_30 : decode cX4_trialFits 30 = .ok (.getfield 21, 3) := by decide +kernel
theorem dX4_trialFits_33 : decode cX4_trialFits 33 = .ok (.aload_n 1, 1) := by decide +kernel
theorem dX4_trialFits_34 : decode cX4_trialFits 34 = .ok (.aload_n 0, 1) := by decide +kernel
theorem dX4_trialFits_35 : decode cX4_trialFits 35 = .ok (.getfield 12, 3) := by decide +kernel
theorem dX4_trialFits_38 : decode cX4_trialFits 38 = .ok (.aload_n 3, 1) := by decide +kernel
theorem dX4_trialFits_39 : decode cX4_trialFits 39 = .ok (.invokevirtual 116, 3) := by decide +kernel
theorem dX4_trialFits_42 : decode cX4_trialFits 42 = .ok (.ifCond .ne 35, 3) := by decide +kernel
theorem dX4_trialFits_45 : decode cX4_trialFits 45 = .ok (.iconst 1, 1) := by decide +kernel
theorem dX4_trialFits_46 : decode cX4_trialFits 46 = .ok (.istore 5, 2) := by decide +kernel
theorem dX4_trialFits_48 : decode cX4_trialFits 48 = .ok (.iload 6, 2) := by decide +kernel
theorem dX4_trialFits_50 : decode cX4_trialFits 50 = .ok (.ifCond .eq 24, 3) := by decide +kernel
theorem dX4_trialFits_53 : decode cX4_trialFits 53 = .ok (.aload_n 0, 1) := by decide +kernel
theorem dX4_trialFits_54 : decode cX4_trialFits 54 = .ok (.getfield 21, 3) := by decide +kernel
theorem dX4_trialFits_57 : decode cX4_trialFits 57 = .ok (.aload_n 2, 1) := by decide +kernel
theorem dX4_trialFits_58 : decode cX4_trialFits 58 = .ok (.aload_n 0, 1) := by decide +kernel
theorem dX4_trialFits_59 : decode cX4_trialFits 59 = .ok (.getfield 12, 3) := by decide +kernel
theorem dX4_trialFits_62 : decode cX4_trialFits 62 = .ok (.aload 4, 2) := by decide +kernel
theorem dX4_trialFits_64 : decode cX4_trialFits 64 = .ok (.invokevirtual 116, 3) := by decide +kernel
theorem dX4_trialFits_67 : decode cX4_trialFits 67 = .ok (.ifCond .ne 7, 3) := by decide +kernel
theorem dX4_trialFits_70 : decode cX4_trialFits 70 = .ok (.iconst 1, 1) := by decide +kernel
theorem dX4_trialFits_71 : decode cX4_trialFits 71 = .ok (.goto 4, 3) := by decide +kernel
theorem dX4_trialFits_74 : decode cX4_trialFits 74 = .ok (.iconst 0, 1) := by decide +kernel
theorem dX4_trialFits_75 : decode cX4_trialFits 75 = .ok (.istore 6, 2) := by decide +kernel
theorem dX4_trialFits_77 : decode cX4_trialFits 77 = .ok (.iinc 7 1, 3) := by decide +kernel
theorem dX4_trialFits_80 : decode cX4_trialFits 80 = .ok (.goto (-71), 3) := by decide +kernel
theorem dX4_trialFits_83 : decode cX4_trialFits 83 = .ok (.iload 5, 2) := by decide +kernel
theorem dX4_trialFits_85 : decode cX4_trialFits 85 = .ok (.ifCond .eq 13, 3) := by decide +kernel
theorem dX4_trialFits_88 : decode cX4_trialFits 88 = .ok (.aload_n 0, 1) := by decide +kernel
theorem dX4_trialFits_89 : decode cX4_trialFits 89 = .ok (.getfield 21, 3) := by decide +kernel
theorem dX4_trialFits_92 : decode cX4_trialFits 92 = .ok (.invokevirtual 120, 3) := by decide +kernel
theorem dX4_trialFits_95 : decode cX4_trialFits 95 = .ok (.ifCond .ne 6, 3) := by decide +kernel
theorem dX4_trialFits_98 : decode cX4_trialFits 98 = .ok (.iload 6, 2) := by decide +kernel
theorem dX4_trialFits_100 : decode cX4_trialFits 100 = .ok (.ireturn, 1) := by decide +kernel
theorem dX4_trialFits_101 : decode cX4_trialFits 101 = .ok (.iconst 0, 1) := by decide +kernel
theorem dX4_trialFits_102 : decode cX4_trialFits 102 = .ok (.istore 7, 2) := by decide +kernel
theorem dX4_trialFits_104 : decode cX4_trialFits 104 = .ok (.iload 7, 2) := by decide +kernel
theorem dX4_trialFits_106 : decode cX4_trialFits 106 = .ok (.aload_n 1, 1) := by decide +kernel
theorem dX4_trialFits_107 : decode cX4_trialFits 107 = .ok (.getfield 25, 3) := by decide +kernel
theorem dX4_trialFits_110 : decode cX4_trialFits 110 = .ok (.if_icmp .ge 110, 3) := by decide +kernel
theorem dX4_trialFits_113 : decode cX4_trialFits 113 = .ok (.aload_n 0, 1) := by decide +kernel
theorem dX4_trialFits_114 : decode cX4_trialFits 114 = .ok (.getfield 21, 3) := by decide +kernel
theorem dX4_trialFits_117 : decode cX4_trialFits 117 = .ok (.aload_n 1, 1) := by decide +kernel
theorem dX4_trialFits_118 : decode cX4_trialFits 118 = .ok (.getfield 31, 3) := by decide +kernel
theorem dX4_trialFits_121 : decode cX4_trialFits 121 = .ok (.iload 7, 2) := by decide +kernel
theorem dX4_trialFits_123 : decode cX4_trialFits 123 = .ok (.aaload, 1) := by decide +kernel
theorem dX4_trialFits_124 : decode cX4_trialFits 124 = .ok (.getfield 43, 3) := by decide +kernel
theorem dX4_trialFits_127 : decode cX4_trialFits 127 = .ok (.putfield 124, 3) := by decide +kernel
theorem dX4_trialFits_130 : decode cX4_trialFits 130 = .ok (.aload_n 1, 1) := by decide +kernel
theorem dX4_trialFits_131 : decode cX4_trialFits 131 = .ok (.aload_n 3, 1) := by decide +kernel
theorem dX4_trialFits_132 : decode cX4_trialFits 132 = .ok (.aload_n 0, 1) := by decide +kernel
theorem dX4_trialFits_133 : decode cX4_trialFits 133 = .ok (.getfield 21, 3) := by decide +kernel
theorem dX4_trialFits_136 : decode cX4_trialFits 136 = .ok (.getfield 127, 3) := by decide +kernel
theorem dX4_trialFits_139 : decode cX4_trialFits 139 = .ok (.aload_n 1, 1) := by decide +kernel
theorem dX4_trialFits_140 : decode cX4_trialFits 140 = .ok (.aload_n 0, 1) := by decide +kernel
theorem dX4_trialFits_141 : decode cX4_trialFits 141 = .ok (.getfield 21, 3) := by decide +kernel
theorem dX4_trialFits_144 : decode cX4_trialFits 144 = .ok (.getfield 124, 3) := by decide +kernel
theorem dX4_trialFits_147 : decode cX4_trialFits 147 = .ok (.invokevirtual 130, 3) := by decide +kernel
theorem dX4_trialFits_150 : decode cX4_trialFits 150 = .ok (.invokevirtual 133, 3) := by decide +kernel
theorem dX4_trialFits_153 : decode cX4_trialFits 153 = .ok (.astore 8, 2) := by decide +kernel
theorem dX4_trialFits_155 : decode cX4_trialFits 155 = .ok (.aload_n 0, 1) := by decide +kernel
theorem dX4_trialFits_156 : decode cX4_trialFits 156 = .ok (.getfield 21, 3) := by decide +kernel
theorem dX4_trialFits_159 : decode cX4_trialFits 159 = .ok (.aload_n 1, 1) := by decide +kernel
theorem dX4_trialFits_160 : decode cX4_trialFits 160 = .ok (.aload 8, 2) := by decide +kernel
theorem dX4_trialFits_162 : decode cX4_trialFits 162 = .ok (.invokevirtual 137, 3) := by decide +kernel
theorem dX4_trialFits_165 : decode cX4_trialFits 165 = .ok (.ifCond .ne 49, 3) := by decide +kernel
theorem dX4_trialFits_168 : decode cX4_trialFits 168 = .ok (.aload_n 2, 1) := by decide +kernel
theorem dX4_trialFits_169 : decode cX4_trialFits 169 = .ok (.aload 4, 2) := by decide +kernel
theorem dX4_trialFits_171 : decode cX4_trialFits 171 = .ok (.aload_n 0, 1) := by decide +kernel
theorem dX4_trialFits_172 : decode cX4_trialFits 172 = .ok (.getfield 21, 3) := by decide +kernel
theorem dX4_trialFits_175 : decode cX4_trialFits 175 = .ok (.getfield 127, 3) := by decide +kernel
theorem dX4_trialFits_178 : decode cX4_trialFits 178 = .ok (.aload_n 2, 1) := by decide +kernel
theorem dX4_trialFits_179 : decode cX4_trialFits 179 = .ok (.aload_n 0, 1) := by decide +kernel
theorem dX4_trialFits_180 : decode cX4_trialFits 180 = .ok (.getfield 21, 3) := by decide +kernel
theorem dX4_trialFits_183 : decode cX4_trialFits 183 = .ok (.getfield 124, 3) := by decide +kernel
theorem dX4_trialFits_186 : decode cX4_trialFits 186 = .ok (.invokevirtual 130, 3) := by decide +kernel
theorem dX4_trialFits_189 : decode cX4_trialFits 189 = .ok (.invokevirtual 133, 3) := by decide +kernel
theorem dX4_trialFits_192 : decode cX4_trialFits 192 = .ok (.astore 9, 2) := by decide +kernel
theorem dX4_trialFits_194 : decode cX4_trialFits 194 = .ok (.iload 6, 2) := by decide +kernel
theorem dX4_trialFits_196 : decode cX4_trialFits 196 = .ok (.ifCond .eq 16, 3) := by decide +kernel
theorem dX4_trialFits_199 : decode cX4_trialFits 199 = .ok (.aload_n 0, 1) := by decide +kernel
theorem dX4_trialFits_200 : decode cX4_trialFits 200 = .ok (.getfield 21, 3) := by decide +kernel
theorem dX4_trialFits_203 : decode cX4_trialFits 203 = .ok (.aload_n 2, 1) := by decide +kernel
theorem dX4_trialFits_204 : decode cX4_trialFits 204 = .ok (.aload 9, 2) := by decide +kernel
theorem dX4_trialFits_206 : decode cX4_trialFits 206 = .ok (.invokevirtual 137, 3) := by decide +kernel
theorem dX4_trialFits_209 : decode cX4_trialFits 209 = .ok (.ifCond .eq 5, 3) := by decide +kernel
theorem dX4_trialFits_212 : decode cX4_trialFits 212 = .ok (.iconst 0, 1) := by decide +kernel
theorem dX4_trialFits_213 : decode cX4_trialFits 213 = .ok (.ireturn, 1) := by decide +kernel
theorem dX4_trialFits_214 : decode cX4_trialFits 214 = .ok (.iinc 7 1, 3) := by decide +kernel
theorem dX4_trialFits_217 : decode cX4_trialFits 217 = .ok (.goto (-113), 3) := by decide +kernel
theorem dX4_trialFits_220 : decode cX4_trialFits 220 = .ok (.iconst 1, 1) := by decide +kernel
theorem dX4_trialFits_221 : decode cX4_trialFits 221 = .ok (.ireturn, 1) := by decide +kernel
