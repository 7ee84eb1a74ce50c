theorem dX5_init_0 : decode cX5_init 0 = .ok (.aload_n 0, 1) := by decide +kernel
theorem dX5_init_1 : decode cX5_init 1 = .ok (.invokespecial 3, 3) := by decide +kernel
theorem dX5_init_4 : decode cX5_init 4 = .ok (.aload_n 0, 1) := by decide +kernel
theorem dX5_init_5 : decode cX5_init 5 = .ok (.iconst 3, 1) := by decide +kernel
theorem dX5_init_6 : decode cX5_init 6 = .ok (.newarray .int, 2) := by decide +kernel
theorem dX5_init_8 : decode cX5_init 8 = .ok (.putfield 9, 3) := by decide +kernel
theorem dX5_init_11 : decode cX5_init 11 = .ok (.aload_n 0, 1) := by decide +kernel
theorem dX5_init_12 : decode cX5_init 12 = .ok (.bipush 6, 2) := by decide +kernel
theorem dX5_init_14 : decode cX5_init 14 = .ok (.anewarray 15, 3) := by decide +kernel
theorem dX5_init_17 : decode cX5_init 17 = .ok (.putfield 17, 3) := by decide +kernel
theorem dX5_init_20 : decode cX5_init 20 = .ok (.aload_n 0, 1) := by decide +kernel
theorem dX5_init_21 : decode cX5_init 21 = .ok (.bipush 10, 2) := by decide +kernel
theorem dX5_init_23 : decode cX5_init 23 = .ok (.newarray .int, 2) := by decide +kernel
theorem dX5_init_25 : decode cX5_init 25 = .ok (.putfield 21, 3) := by decide +kernel
theorem dX5_init_28 : decode cX5_init 28 = .ok (.iconst 0, 1) := by decide +kernel
theorem dX5_init_29 : decode cX5_init 29 = .ok (.istore_n 1, 1) := by decide +kernel
theorem dX5_init_30 : decode cX5_init 30 = .ok (.iload_n 1, 1) := by decide +kernel
theorem dX5_init_31 : decode cX5_init 31 = .ok (.bipush 6, 2) := by decide +kernel
theorem dX5_init_33 : decode cX5_init 33 = .ok (.if_icmp .ge 22, 3) := by decide +kernel
theorem dX5_init_36 : decode cX5_init 36 = .ok (.aload_n 0, 1) := by decide +kernel
theorem dX5_init_37 : decode cX5_init 37 = .ok (.getfield 17, 3) := by decide +kernel
theorem dX5_init_40 : decode cX5_init 40 = .ok (.iload_n 1, 1) := by decide +kernel
theorem dX5_init_41 : decode cX5_init 41 = .ok (.new 15, 3) := by decide +kernel
theorem dX5_init_44 : decode cX5_init 44 = .ok (.dup, 1) := by decide +kernel
theorem dX5_init_45 : decode cX5_init 45 = .ok (.invokespecial 24, 3) := by decide +kernel
theorem dX5_init_48 : decode cX5_init 48 = .ok (.aastore, 1) := by decide +kernel
theorem dX5_init_49 : decode cX5_init 49 = .ok (.iinc 1 1, 3) := by decide +kernel
theorem dX5_init_52 : decode cX5_init 52 = .ok (.goto (-22), 3) := by decide +kernel
theorem dX5_init_55 : decode cX5_init 55 = .ok (.return_, 1) := by decide +kernel
theorem dX5_begin_0 : decode cX5_begin 0 = .ok (.aload_n 0, 1) := by decide +kernel
theorem dX5_begin_1 : decode cX5_begin 1 = .ok (.iload_n 1, 1) := by decide +kernel
theorem dX5_begin_2 : decode cX5_begin 2 = .ok (.putfield 25, 3) := by decide +kernel
theorem dX5_begin_5 : decode cX5_begin 5 = .ok (.aload_n 0, 1) := by decide +kernel
theorem dX5_begin_6 : decode cX5_begin 6 = .ok (.iload_n 2, 1) := by decide +kernel
theorem dX5_begin_7 : decode cX5_begin 7 = .ok (.putfield 29, 3) := by decide +kernel
theorem dX5_begin_10 : decode cX5_begin 10 = .ok (.aload_n 0, 1) := by decide +kernel
theorem dX5_begin_11 : decode cX5_begin 11 = .ok (.iload_n 2, 1) := by decide +kernel
theorem dX5_begin_12 : decode cX5_begin 12 = .ok (.ifCond .ne 7, 3) := by decide +kernel
theorem dX5_begin_15 : decode cX5_begin 15 = .ok (.iload_n 3, 1) := by decide +kernel
theorem dX5_begin_16 : decode cX5_begin 16 = .ok (.ifCond .eq 7, 3) := by decide +kernel
theorem dX5_begin_19 : decode cX5_begin 19 = .ok (.iconst 1, 1) := by decide +kernel
theorem dX5_begin_20 : decode cX5_begin 20 = .ok (.goto 4, 3) := by decide +kernel
theorem dX5_begin_23 : decode cX5_begin 23 = .ok (.iconst 0, 1) := by decide +kernel
theorem dX5_begin_24 : decode cX5_begin 24 = .ok (.putfield 33, 3) := by decide +kernel
theorem dX5_begin_27 : decode cX5_begin 27 = .ok (.aload_n 0, 1) := by decide +kernel
theorem dX5_begin_28 : decode cX5_begin 28 = .ok (.iload 4, 2) := by decide +kernel
theorem dX5_begin_30 : decode cX5_begin 30 = .ok (.putfield 36, 3) := by decide +kernel
theorem dX5_begin_33 : decode cX5_begin 33 = .ok (.aload_n 0, 1) := by decide +kernel
theorem dX5_begin_34 : decode cX5_begin 34 = .ok (.iload 5, 2) := by decide +kernel
theorem dX5_begin_36 : decode cX5_begin 36 = .ok (.putfield 39, 3) := by decide +kernel
theorem dX5_begin_39 : decode cX5_begin 39 = .ok (.aload_n 0, 1) := by decide +kernel
theorem dX5_begin_40 : decode cX5_begin 40 = .ok (.iload 6, 2) := by decide +kernel
theorem dX5_begin_42 : decode cX5_begin 42 = .ok (.putfield 42, 3) := by decide +kernel
theorem dX5_begin_45 : decode cX5_begin 45 = .ok (.aload_n 0, 1) := by decide +kernel
theorem dX5_begin_46 : decode cX5_begin 46 = .ok (.iconst 0, 1) := by decide +kernel
theorem dX5_begin_47 : decode cX5_begin 47 = .ok (.putfield 45, 3) := by decide +kernel
theorem dX5_begin_50 : decode cX5_begin 50 = .ok (.aload_n 0, 1) := by decide +kernel
theorem dX5_begin_51 : decode cX5_begin 51 = .ok (.iconst 0, 1) := by decide +kernel
theorem dX5_begin_52 : decode cX5_begin 52 = .ok (.putfield 48, 3) := by decide +kernel
theorem dX5_begin_55 : decode cX5_begin 55 = .ok (.aload_n 0, 1) := by decide +kernel
theorem dX5_begin_56 : decode cX5_begin 56 = .ok (.lconst 0, 1) := by decide +kernel
theorem dX5_begin_57 : decode cX5_begin 57 = .ok (.putfield 51, 3) := by decide +kernel
theorem dX5_begin_60 : decode cX5_begin 60 = .ok (.aload_n 0, 1) := by decide +kernel
theorem dX5_begin_61 : decode cX5_begin 61 = .ok (.lconst 0, 1) := by decide +kernel
theorem dX5_begin_62 : decode cX5_begin 62 = .ok (.putfield 55, 3) := by decide +kernel
theorem dX5_begin_65 : decode cX5_begin 65 = .ok (.aload_n 0, 1) := by decide +kernel
theorem dX5_begin_66 : decode cX5_begin 66 = .ok (.invokevirtual 58, 3) := by decide +kernel
theorem dX5_begin_69 : decode cX5_begin 69 = .ok (.return_, 1) := by decide +kernel
theorem dX5_takeFrom_0 : decode cX5_takeFrom 0 = .ok (.aload_n 0, 1) := by decide +kernel
theorem dX5_takeFrom_1 : decode cX5_takeFrom 1 = .ok (.aload_n 1, 1) := by decide +kernel
theorem dX5_takeFrom_2 : decode cX5_takeFrom 2 = .ok (.getfield 25, 3) := by decide +kernel
theorem dX5_takeFrom_5 : decode cX5_takeFrom 5 = .ok (.aload_n 1, 1) := by decide +kernel
theorem dX5_takeFrom_6 : decode cX5_takeFrom 6 = .ok (.getfield 29, 3) := by decide +kernel
theorem dX5_takeFrom_9 : decode cX5_takeFrom 9 = .ok (.aload_n 1, 1) := by decide +kernel
theorem dX5_takeFrom_10 : decode cX5_takeFrom 10 = .ok (.getfield 33, 3) := by decide +kernel
theorem dX5_takeFrom_13 : decode cX5_takeFrom 13 = .ok (.aload_n 1, 1) := by decide +kernel
theorem dX5_takeFrom_14 : decode cX5_takeFrom 14 = .ok (.getfield 36, 3) := by decide +kernel
theorem dX5_takeFrom_17 : decode cX5_takeFrom 17 = .ok (.aload_n 1, 1) := by decide +kernel
theorem dX5_takeFrom_18 : decode cX5_takeFrom 18 = .ok (.getfield 39, 3) := by decide +kernel
theorem dX5_takeFrom_21 : decode cX5_takeFrom 21 = .ok (.aload_n 1, 1) := by decide +kernel
theorem dX5_takeFrom_22 : decode cX5_takeFrom 22 = .ok (.getfield 42, 3) := by decide +kernel
theorem dX5_takeFrom_25 : decode cX5_takeFrom 25 = .ok (.invokevirtual 61, 3) := by decide +kernel
theorem dX5_takeFrom_28 : decode cX5_takeFrom 28 = .ok (.iconst 0, 1) := by decide +kernel
theorem dX5_takeFrom_29 : decode cX5_takeFrom 29 = .ok (.istore_n 2, 1) := by decide +kernel
theorem dX5_takeFrom_30 : decode cX5_takeFrom 30 = .ok (.iload_n 2, 1) := by decide +kernel
theorem dX5_takeFrom_31 : decode cX5_takeFrom 31 = .ok (.aload_n 1, 1) := by decide +kernel
theorem dX5_takeFrom_32 : decode cX5_takeFrom 32 = .ok (.getfield 45, 3) := by decide +kernel
theorem dX5_takeFrom_35 : decode cX5_takeFrom 35 = .ok (.if_icmp .ge 21, 3) := by decide +kernel
theorem dX5_takeFrom_38 : decode cX5_takeFrom 38 = .ok (.aload_n 0, 1) := by decide +kernel
theorem dX5_takeFrom_39 : decode cX5_takeFrom 39 = .ok (.getfield 9, 3) := by decide +kernel
theorem dX5_takeFrom_42 : decode cX5_takeFrom 42 = .ok (.iload_n 2, 1) := by decide +kernel
theorem dX5_takeFrom_43 : decode cX5_takeFrom 43 = .ok (.aload_n 1, 1) := by decide +kernel
theorem dX5_takeFrom_44 : decode cX5_takeFrom 44 = .ok (.getfield 9, 3) := by decide +kernel
theorem dX5_takeFrom_47 : decode cX5_takeFrom 47 = .ok (.iload_n 2, 1) := by decide +kernel
theorem dX5_takeFrom_48 : decode cX5_takeFrom 48 = .ok (.iaload, 1) := by decide +kernel
theorem dX5_takeFrom_49 : decode cX5_takeFrom 49 = .ok (.iastore, 1) := by decide +kernel
theorem dX5_takeFrom_50 : decode cX5_takeFrom 50 = .ok (.iinc 2 1, 3) := by decide +kernel
theorem dX5_takeFrom_53 : decode cX5_takeFrom 53 = .ok (.goto (-23), 3) := by decide +kernel
theorem dX5_takeFrom_56 : decode cX5_takeFrom 56 = .ok (.aload_n 0, 1) := by decide +kernel
theorem dX5_takeFrom_57 : decode cX5_takeFrom 57 = .ok (.aload_n 1, 1) := by decide +kernel
theorem dX5_takeFrom_58 : decode cX5_takeFrom 58 = .ok (.getfield 45, 3) := by decide +kernel
theorem dX5_takeFrom_61 : decode cX5_takeFrom 61 = .ok (.putfield 45, 3) := by decide +kernel
theorem dX5_takeFrom_64 : decode cX5_takeFrom 64 = .ok (.iconst 0, 1) := by decide +kernel
theorem dX5_takeFrom_65 : decode cX5_takeFrom 65 = .ok (.istore_n 2, 1) := by decide +kernel
theorem dX5_takeFrom_66 : decode cX5_takeFrom 66 = .ok (.iload_n 2, 1) := by decide +kernel
theorem dX5_takeFrom_67 : decode cX5_takeFrom 67 = .ok (.aload_n 1, 1) := by decide +kernel
theorem dX5_takeFrom_68 : decode cX5_takeFrom 68 = .ok (.getfield 48, 3) := by decide +kernel
theorem dX5_takeFrom_71 : decode cX5_takeFrom 71 = .ok (.if_icmp .ge 24, 3) := by decide +kernel
theorem dX5_takeFrom_74 : decode cX5_takeFrom 74 = .ok (.aload_n 0, 1) := by decide +kernel
theorem dX5_takeFrom_75 : decode cX5_takeFrom 75 = .ok (.getfield 17, 3) := by decide +kernel
theorem dX5_takeFrom_78 : decode cX5_takeFrom 78 = .ok (.iload_n 2, 1) := by decide +kernel
theorem dX5_takeFrom_79 : decode cX5_takeFrom 79 = .ok (.aaload, 1) := by decide +kernel
theorem dX5_takeFrom_80 : decode cX5_takeFrom 80 = .ok (.aload_n 1, 1) := by decide +kernel
theorem dX5_takeFrom_81 : decode cX5_takeFrom 81 = .ok (.getfield 17, 3) := by decide +kernel
theorem dX5_takeFrom_84 : decode cX5_takeFrom 84 = .ok (.iload_n 2, 1) := by decide +kernel
theorem dX5_takeFrom_85 : decode cX5_takeFrom 85 = .ok (.aaload, 1) := by decide +kernel
theorem dX5_takeFrom_86 : decode cX5_takeFrom 86 = .ok (.invokevirtual 65, 3) := by decide +kernel
theorem dX5_takeFrom_89 : decode cX5_takeFrom 89 = .ok (.iinc 2 1, 3) := by decide +kernel
theorem dX5_takeFrom_92 : decode cX5_takeFrom 92 = .ok (.goto (-26), 3) := by decide +kernel
theorem dX5_takeFrom_95 : decode cX5_takeFrom 95 = .ok (.aload_n 0, 1) := by decide +kernel
theorem dX5_takeFrom_96 : decode cX5_takeFrom 96 = .ok (.aload_n 1, 1) := by decide +kernel
theorem dX5_takeFrom_97 : decode cX5_takeFrom 97 = .ok (.getfield 48, 3) := by decide +kernel
theorem dX5_takeFrom_100 : decode cX5_takeFrom 100 = .ok (.putfield 48, 3) := by decide +kernel
theorem dX5_takeFrom_103 : decode cX5_takeFrom 103 = .ok (.aload_n 0, 1) := by decide +kernel
theorem dX5_takeFrom_104 : decode cX5_takeFrom 104 = .ok (.aload_n 1, 1) := by decide +kernel
theorem dX5_takeFrom_105 : decode cX5_takeFrom 105 = .ok (.getfield 51, 3) := by decide +kernel
theorem dX5_takeFrom_108 : decode cX5_takeFrom 108 = .ok (.putfield 51, 3) := by decide +kernel
theorem dX5_takeFrom_111 : decode cX5_takeFrom 111 = .ok (.aload_n 0, 1) := by decide +kernel
theorem dX5_takeFrom_112 : decode cX5_takeFrom 112 = .ok (.aload_n 1, 1) := by decide +kernel
theorem dX5_takeFrom_113 : decode cX5_takeFrom 113 = .ok (.getfield 55, 3) := by decide +kernel
theorem dX5_takeFrom_116 : decode cX5_takeFrom 116 = .ok (.putfield 55, 3) := by decide +kernel
theorem dX5_takeFrom_119 : decode cX5_takeFrom 119 = .ok (.return_, 1) := by decide +kernel
theorem dX5_addInterface_0 : decode cX5_addInterface 0 = .ok (.aload_n 0, 1) := by decide +kernel
theorem dX5_addInterface_1 : decode cX5_addInterface 1 = .ok (.getfield 9, 3) := by decide +kernel
theorem dX5_addInterface_4 : decode cX5_addInterface 4 = .ok (.aload_n 0, 1) := by decide +kernel
theorem dX5_addInterface_5 : decode cX5_addInterface 5 = .ok (.getfield 45, 3) := by decide +kernel
theorem dX5_addInterface_8 : decode cX5_addInterface 8 = .ok (.iload_n 1, 1) := by decide +kernel
theorem dX5_addInterface_9 : decode cX5_addInterface 9 = .ok (.iastore, 1) := by decide +kernel
theorem dX5_addInterface_10 : decode cX5_addInterface 10 = .ok (.aload_n 0, 1) := by decide +kernel
theorem dX5_addInterface_11 : decode cX5_addInterface 11 = .ok (.dup, 1) := by decide +kernel
theorem dX5_addInterface_12 : decode cX5_addInterface 12 = .ok (.getfield 45, 3) := by decide +kernel
theorem dX5_addInterface_15 : decode cX5_addInterface 15 = .ok (.iconst 1, 1) := by decide +kernel
theorem dX5_addInterface_16 : decode cX5_addInterface 16 = .ok (.iadd, 1) := by decide +kernel
theorem dX5_addInterface_17 : decode cX5_addInterface 17 = .ok (.putfield 45, 3) := by decide +kernel
theorem dX5_addInterface_20 : decode cX5_addInterface 20 = .ok (.return_, 1) := by decide +kernel
theorem dX5_leansOnInterface_0 : decode cX5_leansOnInterface 0 = .ok (.iconst 0, 1) := by decide +kernel
theorem dX5_leansOnInterface_1 : decode cX5_leansOnInterface 1 = .ok (.istore_n 2, 1) := by decide +kernel
theorem dX5_leansOnInterface_2 : decode cX5_leansOnInterface 2 = .ok (.iload_n 2, 1) := by decide +kernel
theorem dX5_leansOnInterface_3 : decode cX5_leansOnInterface 3 = .ok (.aload_n 0, 1) := by decide +kernel
theorem dX5_leansOnInterface_4 : decode cX5_leansOnInterface 4 = .ok (.getfield 45, 3) := by decide +kernel
theorem dX5_leansOnInterface_7 : decode cX5_leansOnInterface 7 = .ok (.if_icmp .ge 21, 3) := by decide +kernel
theorem dX5_leansOnInterface_10 : decode cX5_leansOnInterface 10 = .ok (.aload_n 0, 1) := by decide +kernel
theorem dX5_leansOnInterface_11 : decode cX5_leansOnInterface 11 = .ok (.getfield 9, 3) := by decide +kernel
theorem dX5_leansOnInterface_14 : decode cX5_leansOnInterface 14 = .ok (.iload_n 2, 1) := by decide +kernel
theorem dX5_leansOnInterface_15 : decode cX5_leansOnInterface 15 = .ok (.iaload, 1) := by decide +kernel
theorem dX5_leansOnInterface_16 : decode cX5_leansOnInterface 16 = .ok (.iload_n 1, 1) := by decide +kernel
theorem dX5_leansOnInterface_17 : decode cX5_leansOnInterface 17 = .ok (.if_icmp .ne 5, 3) := by decide +kernel
theorem dX5_leansOnInterface_20 : decode cX5_leansOnInterface 20 = .ok (.iconst 1, 1) := by decide +kernel
theorem dX5_leansOnInterface_21 : decode cX5_leansOnInterface 21 = .ok (.ireturn, 1) := by decide +kernel
theorem dX5_leansOnInterface_22 : decode cX5_leansOnInterface 22 = .ok (.iinc 2 1, 3) := by decide +kernel
theorem dX5_leansOnInterface_25 : decode cX5_leansOnInterface 25 = .ok (.goto (-23), 3) := by decide +kernel
theorem dX5_leansOnInterface_28 : decode cX5_leansOnInterface 28 = .ok (.iconst 0, 1) := by decide +kernel
theorem dX5_leansOnInterface_29 : decode cX5_leansOnInterface 29 = .ok (.ireturn, 1) := by decide +kernel
theorem dX5_interfaceNames_0 : decode cX5_interfaceNames 0 = .ok (.iconst 0, 1) := by decide +kernel
theorem dX5_interfaceNames_1 : decode cX5_interfaceNames 1 = .ok (.istore_n 1, 1) := by decide +kernel
theorem dX5_interfaceNames_2 : decode cX5_interfaceNames 2 = .ok (.iconst 0, 1) := by decide +kernel
theorem dX5_interfaceNames_3 : decode cX5_interfaceNames 3 = .ok (.istore_n 2, 1) := by decide +kernel
theorem dX5_interfaceNames_4 : decode cX5_interfaceNames 4 = .ok (.iload_n 2, 1) := by decide +kernel
theorem dX5_interfaceNames_5 : decode cX5_interfaceNames 5 = .ok (.aload_n 0, 1) := by decide +kernel
theorem dX5_interfaceNames_6 : decode cX5_interfaceNames 6 = .ok (.getfield 45, 3) := by decide +kernel
theorem dX5_interfaceNames_9 : decode cX5_interfaceNames 9 = .ok (.if_icmp .ge 20, 3) := by decide +kernel
theorem dX5_interfaceNames_12 : decode cX5_interfaceNames 12 = .ok (.iload_n 1, 1) := by decide +kernel
theorem dX5_interfaceNames_13 : decode cX5_interfaceNames 13 = .ok (.iconst 1, 1) := by decide +kernel
theorem dX5_interfaceNames_14 : decode cX5_interfaceNames 14 = .ok (.aload_n 0, 1) := by decide +kernel
theorem dX5_interfaceNames_15 : decode cX5_interfaceNames 15 = .ok (.getfield 9, 3) := by decide +kernel
theorem dX5_interfaceNames_18 : decode cX5_interfaceNames 18 = .ok (.iload_n 2, 1) := by decide +kernel
theorem dX5_interfaceNames_19 : decode cX5_interfaceNames 19 = .ok (.iaload, 1) := by decide +kernel
theorem dX5_interfaceNames_20 : decode cX5_interfaceNames 20 = .ok (.ishl, 1) := by decide +kernel
theorem dX5_interfaceNames_21 : decode cX5_interfaceNames 21 = .ok (.ior, 1) := by decide +kernel
theorem dX5_interfaceNames_22 : decode cX5_interfaceNames 22 = .ok (.istore_n 1, 1) := by decide +kernel
theorem dX5_interfaceNames_23 : decode cX5_interfaceNames 23 = .ok (.iinc 2 1, 3) := by decide +kernel
theorem dX5_interfaceNames_26 : decode cX5_interfaceNames 26 = .ok (.goto (-22), 3) := by decide +kernel
theorem dX5_interfaceNames_29 : decode cX5_interfaceNames 29 = .ok (.iload_n 1, 1) := by decide +kernel
theorem dX5_interfaceNames_30 : decode cX5_interfaceNames 30 = .ok (.ireturn, 1) := by decide +kernel
theorem dX5_addMember_0 : decode cX5_addMember 0 = .ok (.aload_n 0, 1) := by decide +kernel
theorem dX5_addMember_1 : decode cX5_addMember 1 = .ok (.getfield 17, 3) := by decide +kernel
theorem dX5_addMember_4 : decode cX5_addMember 4 = .ok (.aload_n 0, 1) := by decide +kernel
theorem dX5_addMember_5 : decode cX5_addMember 5 = .ok (.getfield 48, 3) := by decide +kernel
theorem dX5_addMember_8 : decode cX5_addMember 8 = .ok (.aaload, 1) := by decide +kernel
theorem dX5_addMember_9 : decode cX5_addMember 9 = .ok (.iload_n 1, 1) := by decide +kernel
theorem dX5_addMember_10 : decode cX5_addMember 10 = .ok (.iload_n 2, 1) := by decide +kernel
theorem dX5_addMember_11 : decode cX5_addMember 11 = .ok (.iload_n 3, 1) := by decide +kernel
theorem dX5_addMember_12 : decode cX5_addMember 12 = .ok (.iload 4, 2) := by decide +kernel
theorem dX5_addMember_14 : decode cX5_addMember 14 = .ok (.iload 5, 2) := by decide +kernel
theorem dX5_addMember_16 : decode cX5_addMember 16 = .ok (.invokevirtual 69, 3) := by decide +kernel
theorem dX5_addMember_19 : decode cX5_addMember 19 = .ok (.aload_n 0, 1) := by decide +kernel
theorem dX5_addMember_20 : decode cX5_addMember 20 = .ok (.dup, 1) := by decide +kernel
theorem dX5_addMember_21 : decode cX5_addMember 21 = .ok (.getfield 48, 3) := by decide +kernel
theorem dX5_addMember_24 : decode cX5_addMember 24 = .ok (.iconst 1, 1) := by decide +kernel
theorem dX5_addMember_25 : decode cX5_addMember 25 = .ok (.iadd, 1) := by decide +kernel
theorem dX5_addMember_26 : decode cX5_addMember 26 = .ok (.putfield 48, 3) := by decide +kernel
theorem dX5_addMember_29 : decode cX5_addMember 29 = .ok (.aload_n 0, 1) := by decide +kernel
theorem dX5_addMember_30 : decode cX5_addMember 30 = .ok (.iload_n 1, 1) := by decide +kernel
theorem dX5_addMember_31 : decode cX5_addMember 31 = .ok (.iconst 1, 1) := by decide +kernel
theorem dX5_addMember_32 : decode cX5_addMember 32 = .ok (.if_icmp .ne 7, 3) := by decide +kernel
theorem dX5_addMember_35 : decode cX5_addMember 35 = .ok (.iconst 1, 1) := by decide +kernel
theorem dX5_addMember_36 : decode cX5_addMember 36 = .ok (.goto 4, 3) := by decide +kernel
theorem dX5_addMember_39 : decode cX5_addMember 39 = .ok (.iconst 0, 1) := by decide +kernel
theorem dX5_addMember_40 : decode cX5_addMember 40 = .ok (.iload_n 2, 1) := by decide +kernel
theorem dX5_addMember_41 : decode cX5_addMember 41 = .ok (.invokevirtual 72, 3) := by decide +kernel
theorem dX5_addMember_44 : decode cX5_addMember 44 = .ok (.return_, 1) := by decide +kernel
theorem dX5_dropMember_0 : decode cX5_dropMember 0 = .ok (.aload_n 0, 1) := by decide +kernel
theorem dX5_dropMember_1 : decode cX5_dropMember 1 = .ok (.iload_n 1, 1) := by decide +kernel
theorem dX5_dropMember_2 : decode cX5_dropMember 2 = .ok (.iload_n 2, 1) := by decide +kernel
theorem dX5_dropMember_3 : decode cX5_dropMember 3 = .ok (.invokevirtual 76, 3) := by decide +kernel
theorem dX5_dropMember_6 : decode cX5_dropMember 6 = .ok (.astore_n 3, 1) := by decide +kernel
theorem dX5_dropMember_7 : decode cX5_dropMember 7 = .ok (.aload_n 3, 1) := by decide +kernel
theorem dX5_dropMember_8 : decode cX5_dropMember 8 = .ok (.ifnonnull 5, 3) := by decide +kernel
theorem dX5_dropMember_11 : decode cX5_dropMember 11 = .ok (.iconst 0, 1) := by decide +kernel
theorem dX5_dropMember_12 : decode cX5_dropMember 12 = .ok (.ireturn, 1) := by decide +kernel
theorem dX5_dropMember_13 : decode cX5_dropMember 13 = .ok (.iconst 0, 1) := by decide +kernel
theorem dX5_dropMember_14 : decode cX5_dropMember 14 = .ok (.istore 4, 2) := by decide +kernel
theorem dX5_dropMember_16 : decode cX5_dropMember 16 = .ok (.iconst 0, 1) := by decide +kernel
theorem dX5_dropMember_17 : decode cX5_dropMember 17 = .ok (.istore 5, 2) := by decide +kernel
theorem dX5_dropMember_19 : decode cX5_dropMember 19 = .ok (.iload 5, 2) := by decide +kernel
theorem dX5_dropMember_21 : decode cX5_dropMember 21 = .ok (.aload_n 0, 1) := by decide +kernel
theorem dX5_dropMember_22 : decode cX5_dropMember 22 = .ok (.getfield 48, 3) := by decide +kernel
theorem dX5_dropMember_25 : decode cX5_dropMember 25 = .ok (.if_icmp .ge 54, 3) := by decide +kernel
theorem dX5_dropMember_28 : decode cX5_dropMember 28 = .ok (.aload_n 0, 1) := by decide +kernel
theorem dX5_dropMember_29 : decode cX5_dropMember 29 = .ok (.getfield 17, 3) := by decide +kernel
theorem dX5_dropMember_32 : decode cX5_dropMember 32 = .ok (.iload 5, 2) := by decide +kernel
theorem dX5_dropMember_34 : decode cX5_dropMember 34 = .ok (.aaload, 1) := by decide +kernel
theorem dX5_dropMember_35 : decode cX5_dropMember 35 = .ok (.getfield 80, 3) := by decide +kernel
theorem dX5_dropMember_38 : decode cX5_dropMember 38 = .ok (.iload_n 2, 1) := by decide +kernel
theorem dX5_dropMember_39 : decode cX5_dropMember 39 = .ok (.if_icmp .ne 17, 3) := by decide +kernel
theorem dX5_dropMember_42 : decode cX5_dropMember 42 = .ok (.aload_n 0, 1) := by decide +kernel
theorem dX5_dropMember_43 : decode cX5_dropMember 43 = .ok (.getfield 17, 3) := by decide +kernel
theorem dX5_dropMember_46 : decode cX5_dropMember 46 = .ok (.iload 5, 2) := by decide +kernel
theorem dX5_dropMember_48 : decode cX5_dropMember 48 = .ok (.aaload, 1) := by decide +kernel
theorem dX5_dropMember_49 : decode cX5_dropMember 49 = .ok (.getfield 83, 3) := by decide +kernel
theorem dX5_dropMember_52 : decode cX5_dropMember 52 = .ok (.iload_n 1, 1) := by decide +kernel
theorem dX5_dropMember_53 : decode cX5_dropMember 53 = .ok (.if_icmp .eq 20, 3) := by decide +kernel
theorem dX5_dropMember_56 : decode cX5_dropMember 56 = .ok (.aload_n 0, 1) := by decide +kernel
theorem dX5_dropMember_57 : decode cX5_dropMember 57 = .ok (.getfield 17, 3) := by decide +kernel
theorem dX5_dropMember_60 : decode cX5_dropMember 60 = .ok (.iload 4, 2) := by decide +kernel
theorem dX5_dropMember_62 : decode cX5_dropMember 62 = .ok (.aload_n 0, 1) := by decide +kernel
theorem dX5_dropMember_63 : decode cX5_dropMember 63 = .ok (.getfield 17, 3) := by decide +kernel
theorem dX5_dropMember_66 : decode cX5_dropMember 66 = .ok (.iload 5, 2) := by decide +kernel
theorem dX5_dropMember_68 : decode cX5_dropMember 68 = .ok (.aaload, 1) := by decide +kernel
theorem dX5_dropMember_69 : decode cX5_dropMember 69 = .ok (.aastore, 1) := by decide +kernel
theorem dX5_dropMember_70 : decode cX5_dropMember 70 = .ok (.iinc 4 1, 3) := by decide +kernel
theorem dX5_dropMember_73 : decode cX5_dropMember 73 = .ok (.iinc 5 1, 3) := by decide +kernel
theorem dX5_dropMember_76 : decode cX5_dropMember 76 = .ok (.goto (-57), 3) := by decide +kernel
theorem dX5_dropMember_79 : decode cX5_dropMember 79 = .ok (.iload 4, 2) := by decide +kernel
theorem dX5_dropMember_81 : decode cX5_dropMember 81 = .ok (.aload_n 0, 1) := by decide +kernel
theorem dX5_dropMember_82 : decode cX5_dropMember 82 = .ok (.getfield 48, 3) := by decide +kernel
theorem dX5_dropMember_85 : decode cX5_dropMember 85 = .ok (.if_icmp .ge 11, 3) := by decide +kernel
theorem dX5_dropMember_88 : decode cX5_dropMember 88 = .ok (.aload_n 0, 1) := by decide +kernel
theorem dX5_dropMember_89 : decode cX5_dropMember 89 = .ok (.getfield 17, 3) := by decide +kernel
theorem dX5_dropMember_92 : decode cX5_dropMember 92 = .ok (.iload 4, 2) := by decide +kernel
theorem dX5_dropMember_94 : decode cX5_dropMember 94 = .ok (.aload_n 3, 1) := by decide +kernel
theorem dX5_dropMember_95 : decode cX5_dropMember 95 = .ok (.aastore, 1) := by decide +kernel
theorem dX5_dropMember_96 : decode cX5_dropMember 96 = .ok (.aload_n 0, 1) := by decide +kernel
theorem dX5_dropMember_97 : decode cX5_dropMember 97 = .ok (.iload 4, 2) := by decide +kernel
theorem dX5_dropMember_99 : decode cX5_dropMember 99 = .ok (.putfield 48, 3) := by decide +kernel
theorem dX5_dropMember_102 : decode cX5_dropMember 102 = .ok (.aload_n 0, 1) := by decide +kernel
theorem dX5_dropMember_103 : decode cX5_dropMember 103 = .ok (.iload_n 1, 1) := by decide +kernel
theorem dX5_dropMember_104 : decode cX5_dropMember 104 = .ok (.iload_n 2, 1) := by decide +kernel
theorem dX5_dropMember_105 : decode cX5_dropMember 105 = .ok (.invokevirtual 72, 3) := by decide +kernel
theorem dX5_dropMember_108 : decode cX5_dropMember 108 = .ok (.iconst 1, 1) := by decide +kernel
theorem dX5_dropMember_109 : decode cX5_dropMember 109 = .ok (.ireturn, 1) := by decide +kernel
theorem dX5_turnKey_0 : decode cX5_turnKey 0 = .ok (.iload_n 1, 1) := by decide +kernel
theorem dX5_turnKey_1 : decode cX5_turnKey 1 = .ok (.ifCond .eq 18, 3) := by decide +kernel
theorem dX5_turnKey_4 : decode cX5_turnKey 4 = .ok (.aload_n 0, 1) := by decide +kernel
theorem dX5_turnKey_5 : decode cX5_turnKey 5 = .ok (.dup, 1) := by decide +kernel
theorem dX5_turnKey_6 : decode cX5_turnKey 6 = .ok (.getfield 55, 3) := by decide +kernel
theorem dX5_turnKey_9 : decode cX5_turnKey 9 = .ok (.lconst 1, 1) := by decide +kernel
theorem dX5_turnKey_10 : decode cX5_turnKey 10 = .ok (.iload_n 2, 1) := by decide +kernel
theorem dX5_turnKey_11 : decode cX5_turnKey 11 = .ok (.lshl, 1) := by decide +kernel
theorem dX5_turnKey_12 : decode cX5_turnKey 12 = .ok (.lxor, 1) := by decide +kernel
theorem dX5_turnKey_13 : decode cX5_turnKey 13 = .ok (.putfield 55, 3) := by decide +kernel
theorem dX5_turnKey_16 : decode cX5_turnKey 16 = .ok (.goto 15, 3) := by decide +kernel
theorem dX5_turnKey_19 : decode cX5_turnKey 19 = .ok (.aload_n 0, 1) := by decide +kernel
theorem dX5_turnKey_20 : decode cX5_turnKey 20 = .ok (.dup, 1) := by decide +kernel
theorem dX5_turnKey_21 : decode cX5_turnKey 21 = .ok (.getfield 51, 3) := by decide +kernel
theorem dX5_turnKey_24 : decode cX5_turnKey 24 = .ok (.lconst 1, 1) := by decide +kernel
theorem dX5_turnKey_25 : decode cX5_turnKey 25 = .ok (.iload_n 2, 1) := by decide +kernel
theorem dX5_turnKey_26 : decode cX5_turnKey 26 = .ok (.lshl, 1) := by decide +kernel
theorem dX5_turnKey_27 : decode cX5_turnKey 27 = .ok (.lxor, 1) := by decide +kernel
theorem dX5_turnKey_28 : decode cX5_turnKey 28 = .ok (.putfield 51, 3) := by decide +kernel
theorem dX5_turnKey_31 : decode cX5_turnKey 31 = .ok (.return_, 1) := by decide +kernel
theorem dX5_keys_0 : decode cX5_keys 0 = .ok (.iload_n 1, 1) := by decide +kernel
theorem dX5_keys_1 : decode cX5_keys 1 = .ok (.ifCond .eq 10, 3) := by decide +kernel
theorem dX5_keys_4 : decode cX5_keys 4 = .ok (.aload_n 0, 1) := by decide +kernel
theorem dX5_keys_5 : decode cX5_keys 5 = .ok (.getfield 55, 3) := by decide +kernel
theorem dX5_keys_8 : decode cX5_keys 8 = .ok (.goto 7, 3) := by decide +kernel
theorem dX5_keys_11 : decode cX5_keys 11 = .ok (.aload_n 0, 1) := by decide +kernel
theorem dX5_keys_12 : decode cX5_keys 12 = .ok (.getfield 51, 3) := by decide +kernel
theorem dX5_keys_15 : decode cX5_keys 15 = .ok (.lreturn, 1) := by decide +kernel
theorem dX5_has_0 : decode cX5_has 0 = .ok (.iload_n 2, 1) := by decide +kernel
theorem dX5_has_1 : decode cX5_has 1 = .ok (.iconst (-1), 1) := by decide +kernel
theorem dX5_has_2 : decode cX5_has 2 = .ok (.if_icmp .eq 31, 3) := by decide +kernel
theorem dX5_has_5 : decode cX5_has 5 = .ok (.iload_n 1, 1) := by decide +kernel
theorem dX5_has_6 : decode cX5_has 6 = .ok (.ifCond .eq 10, 3) := by decide +kernel
theorem dX5_has_9 : decode cX5_has 9 = .ok (.aload_n 0, 1) := by decide +kernel
theorem dX5_has_10 : decode cX5_has 10 = .ok (.getfield 55, 3) := by decide +kernel
theorem dX5_has_13 : decode cX5_has 13 = .ok (.goto 7, 3) := by decide +kernel
theorem dX5_has_16 : decode cX5_has 16 = .ok (.aload_n 0, 1) := by decide +kernel
theorem dX5_has_17 : decode cX5_has 17 = .ok (.getfield 51, 3) := by decide +kernel
theorem dX5_has_20 : decode cX5_has 20 = .ok (.iload_n 2, 1) := by decide +kernel
theorem dX5_has_21 : decode cX5_has 21 = .ok (.lushr, 1) := by decide +kernel
theorem dX5_has_22 : decode cX5_has 22 = .ok (.lconst 1, 1) := by decide +kernel
theorem dX5_has_23 : decode cX5_has 23 = .ok (.land, 1) := by decide +kernel
theorem dX5_has_24 : decode cX5_has 24 = .ok (.lconst 0, 1) := by decide +kernel
theorem dX5_has_25 : decode cX5_has 25 = .ok (.lcmp, 1) := by decide +kernel
theorem dX5_has_26 : decode cX5_has 26 = .ok (.ifCond .eq 7, 3) := by decide +kernel
theorem dX5_has_29 : decode cX5_has 29 = .ok (.iconst 1, 1) := by decide +kernel
theorem dX5_has_30 : decode cX5_has 30 = .ok (.goto 4, 3) := by decide +kernel
theorem dX5_has_33 : decode cX5_has 33 = .ok (.iconst 0, 1) := by decide +kernel
theorem dX5_has_34 : decode cX5_has 34 = .ok (.ireturn, 1) := by decide +kernel
theorem dX5_own_0 : decode cX5_own 0 = .ok (.iconst 0, 1) := by decide +kernel
theorem dX5_own_1 : decode cX5_own 1 = .ok (.istore_n 3, 1) := by decide +kernel
theorem dX5_own_2 : decode cX5_own 2 = .ok (.iload_n 3, 1) := by decide +kernel
theorem dX5_own_3 : decode cX5_own 3 = .ok (.aload_n 0, 1) := by decide +kernel
theorem dX5_own_4 : decode cX5_own 4 = .ok (.getfield 48, 3) := by decide +kernel
theorem dX5_own_7 : decode cX5_own 7 = .ok (.if_icmp .ge 42, 3) := by decide +kernel
theorem dX5_own_10 : decode cX5_own 10 = .ok (.aload_n 0, 1) := by decide +kernel
theorem dX5_own_11 : decode cX5_own 11 = .ok (.getfield 17, 3) := by decide +kernel
theorem dX5_own_14 : decode cX5_own 14 = .ok (.iload_n 3, 1) := by decide +kernel
theorem dX5_own_15 : decode cX5_own 15 = .ok (.aaload, 1) := by decide +kernel
theorem dX5_own_16 : decode cX5_own 16 = .ok (.getfield 80, 3) := by decide +kernel
theorem dX5_own_19 : decode cX5_own 19 = .ok (.iload_n 2, 1) := by decide +kernel
theorem dX5_own_20 : decode cX5_own 20 = .ok (.if_icmp .ne 23, 3) := by decide +kernel
theorem dX5_own_23 : decode cX5_own 23 = .ok (.aload_n 0, 1) := by decide +kernel
theorem dX5_own_24 : decode cX5_own 24 = .ok (.getfield 17, 3) := by decide +kernel
theorem dX5_own_27 : decode cX5_own 27 = .ok (.iload_n 3, 1) := by decide +kernel
theorem dX5_own_28 : decode cX5_own 28 = .ok (.aaload, 1) := by decide +kernel
theorem dX5_own_29 : decode cX5_own 29 = .ok (.getfield 83, 3) := by decide +kernel
theorem dX5_own_32 : decode cX5_own 32 = .ok (.iload_n 1, 1) := by decide +kernel
theorem dX5_own_33 : decode cX5_own 33 = .ok (.if_icmp .ne 10, 3) := by decide +kernel
theorem dX5_own_36 : decode cX5_own 36 = .ok (.aload_n 0, 1) := by decide +kernel
theorem dX5_own_37 : decode cX5_own 37 = .ok (.getfield 17, 3) := by decide +kernel
theorem dX5_own_40 : decode cX5_own 40 = .ok (.iload_n 3, 1) := by decide +kernel
theorem dX5_own_41 : decode cX5_own 41 = .ok (.aaload, 1) := by decide +kernel
theorem dX5_own_42 : decode cX5_own 42 = .ok (.areturn, 1) := by decide +kernel
theorem dX5_own_43 : decode cX5_own 43 = .ok (.iinc 3 1, 3) := by decide +kernel
theorem dX5_own_46 : decode cX5_own 46 = .ok (.goto (-44), 3) := by decide +kernel
theorem dX5_own_49 : decode cX5_own 49 = .ok (.aconst_null, 1) := by decide +kernel
theorem dX5_own_50 : decode cX5_own 50 = .ok (.areturn, 1) := by decide +kernel
theorem dX5_forgetUppers_0 : decode cX5_forgetUppers 0 = .ok (.aload_n 0, 1) := by decide +kernel
theorem dX5_forgetUppers_1 : decode cX5_forgetUppers 1 = .ok (.iconst 0, 1) := by decide +kernel
theorem dX5_forgetUppers_2 : decode cX5_forgetUppers 2 = .ok (.putfield 86, 3) := by decide +kernel
theorem dX5_forgetUppers_5 : decode cX5_forgetUppers 5 = .ok (.aload_n 0, 1) := by decide +kernel
theorem dX5_forgetUppers_6 : decode cX5_forgetUppers 6 = .ok (.iconst 0, 1) := by decide +kernel
theorem dX5_forgetUppers_7 : decode cX5_forgetUppers 7 = .ok (.putfield 89, 3) := by decide +kernel
theorem dX5_forgetUppers_10 : decode cX5_forgetUppers 10 = .ok (.return_, 1) := by decide +kernel
theorem dX5_addUpper_0 : decode cX5_addUpper 0 = .ok (.aload_n 0, 1) := by decide +kernel
theorem dX5_addUpper_1 : decode cX5_addUpper 1 = .ok (.getfield 86, 3) := by decide +kernel
theorem dX5_addUpper_4 : decode cX5_addUpper 4 = .ok (.bipush 10, 2) := by decide +kernel
theorem dX5_addUpper_6 : decode cX5_addUpper 6 = .ok (.if_icmp .ge 35, 3) := by decide +kernel
theorem dX5_addUpper_9 : decode cX5_addUpper 9 = .ok (.aload_n 0, 1) := by decide +kernel
theorem dX5_addUpper_10 : decode cX5_addUpper 10 = .ok (.getfield 21, 3) := by decide +kernel
theorem dX5_addUpper_13 : decode cX5_addUpper 13 = .ok (.aload_n 0, 1) := by decide +kernel
theorem dX5_addUpper_14 : decode cX5_addUpper 14 = .ok (.getfield 86, 3) := by decide +kernel
theorem dX5_addUpper_17 : decode cX5_addUpper 17 = .ok (.iload_n 1, 1) := by decide +kernel
theorem dX5_addUpper_18 : decode cX5_addUpper 18 = .ok (.iastore, 1) := by decide +kernel
theorem dX5_addUpper_19 : decode cX5_addUpper 19 = .ok (.aload_n 0, 1) := by decide +kernel
theorem dX5_addUpper_20 : decode cX5_addUpper 20 = .ok (.dup, 1) := by decide +kernel
theorem dX5_addUpper_21 : decode cX5_addUpper 21 = .ok (.getfield 86, 3) := by decide +kernel
theorem dX5_addUpper_24 : decode cX5_addUpper 24 = .ok (.iconst 1, 1) := by decide +kernel
theorem dX5_addUpper_25 : decode cX5_addUpper 25 = .ok (.iadd, 1) := by decide +kernel
theorem dX5_addUpper_26 : decode cX5_addUpper 26 = .ok (.putfield 86, 3) := by decide +kernel
theorem dX5_addUpper_29 : decode cX5_addUpper 29 = .ok (.aload_n 0, 1) := by decide +kernel
theorem dX5_addUpper_30 : decode cX5_addUpper 30 = .ok (.dup, 1) := by decide +kernel
theorem dX5_addUpper_31 : decode cX5_addUpper 31 = .ok (.getfield 89, 3) := by decide +kernel
theorem dX5_addUpper_34 : decode cX5_addUpper 34 = .ok (.iconst 1, 1) := by decide +kernel
theorem dX5_addUpper_35 : decode cX5_addUpper 35 = .ok (.iload_n 1, 1) := by decide +kernel
theorem dX5_addUpper_36 : decode cX5_addUpper 36 = .ok (.ishl, 1) := by decide +kernel
theorem dX5_addUpper_37 : decode cX5_addUpper 37 = .ok (.ior, 1) := by decide +kernel
theorem dX5_addUpper_38 : decode cX5_addUpper 38 = .ok (.putfield 89, 3) := by decide +kernel
theorem dX5_addUpper_41 : decode cX5_addUpper 41 = .ok (.return_, 1) := by decide +kernel
theorem dX5_isUnder_0 : decode cX5_isUnder 0 = .ok (.aload_n 0, 1) := by decide +kernel
theorem dX5_isUnder_1 : decode cX5_isUnder 1 = .ok (.getfield 89, 3) := by decide +kernel
theorem dX5_isUnder_4 : decode cX5_isUnder 4 = .ok (.iload_n 1, 1) := by decide +kernel
theorem dX5_isUnder_5 : decode cX5_isUnder 5 = .ok (.iushr, 1) := by decide +kernel
theorem dX5_isUnder_6 : decode cX5_isUnder 6 = .ok (.iconst 1, 1) := by decide +kernel
theorem dX5_isUnder_7 : decode cX5_isUnder 7 = .ok (.iand, 1) := by decide +kernel
theorem dX5_isUnder_8 : decode cX5_isUnder 8 = .ok (.ifCond .eq 7, 3) := by decide +kernel
theorem dX5_isUnder_11 : decode cX5_isUnder 11 = .ok (.iconst 1, 1) := by decide +kernel
theorem dX5_isUnder_12 : decode cX5_isUnder 12 = .ok (.goto 4, 3) := by decide +kernel
theorem dX5_isUnder_15 : decode cX5_isUnder 15 = .ok (.iconst 0, 1) := by decide +kernel
theorem dX5_isUnder_16 : decode cX5_isUnder 16 = .ok (.ireturn, 1) := by decide +kernel
