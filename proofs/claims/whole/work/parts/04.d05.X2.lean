theorem dX2_init_0 : decode cX2_init 0 = .ok (.aload_n 0, 1) := by decide +kernel
theorem dX2_init_1 : decode cX2_init 1 = .ok (.invokespecial 3, 3) := by decide +kernel
theorem dX2_init_4 : decode cX2_init 4 = .ok (.aload_n 0, 1) := by decide +kernel
theorem dX2_init_5 : decode cX2_init 5 = .ok (.bipush 10, 2) := by decide +kernel
theorem dX2_init_7 : decode cX2_init 7 = .ok (.anewarray 9, 3) := by decide +kernel
theorem dX2_init_10 : decode cX2_init 10 = .ok (.putfield 11, 3) := by decide +kernel
theorem dX2_init_13 : decode cX2_init 13 = .ok (.aload_n 0, 1) := by decide +kernel
theorem dX2_init_14 : decode cX2_init 14 = .ok (.bipush 16, 2) := by decide +kernel
theorem dX2_init_16 : decode cX2_init 16 = .ok (.anewarray 9, 3) := by decide +kernel
theorem dX2_init_19 : decode cX2_init 19 = .ok (.putfield 17, 3) := by decide +kernel
theorem dX2_init_22 : decode cX2_init 22 = .ok (.aload_n 0, 1) := by decide +kernel
theorem dX2_init_23 : decode cX2_init 23 = .ok (.iload_n 1, 1) := by decide +kernel
theorem dX2_init_24 : decode cX2_init 24 = .ok (.putfield 20, 3) := by decide +kernel
theorem dX2_init_27 : decode cX2_init 27 = .ok (.iconst 0, 1) := by decide +kernel
theorem dX2_init_28 : decode cX2_init 28 = .ok (.istore_n 2, 1) := by decide +kernel
theorem dX2_init_29 : decode cX2_init 29 = .ok (.iload_n 2, 1) := by decide +kernel
theorem dX2_init_30 : decode cX2_init 30 = .ok (.bipush 10, 2) := by decide +kernel
theorem dX2_init_32 : decode cX2_init 32 = .ok (.if_icmp .ge 22, 3) := by decide +kernel
theorem dX2_init_35 : decode cX2_init 35 = .ok (.aload_n 0, 1) := by decide +kernel
theorem dX2_init_36 : decode cX2_init 36 = .ok (.getfield 11, 3) := by decide +kernel
theorem dX2_init_39 : decode cX2_init 39 = .ok (.iload_n 2, 1) := by decide +kernel
theorem dX2_init_40 : decode cX2_init 40 = .ok (.new 9, 3) := by decide +kernel
theorem dX2_init_43 : decode cX2_init 43 = .ok (.dup, 1) := by decide +kernel
theorem dX2_init_44 : decode cX2_init 44 = .ok (.invokespecial 24, 3) := by decide +kernel
theorem dX2_init_47 : decode cX2_init 47 = .ok (.aastore, 1) := by decide +kernel
theorem dX2_init_48 : decode cX2_init 48 = .ok (.iinc 2 1, 3) := by decide +kernel
theorem dX2_init_51 : decode cX2_init 51 = .ok (.goto (-22), 3) := by decide +kernel
theorem dX2_init_54 : decode cX2_init 54 = .ok (.return_, 1) := by decide +kernel
theorem dX2_named_0 : decode cX2_named 0 = .ok (.iload_n 1, 1) := by decide +kernel
theorem dX2_named_1 : decode cX2_named 1 = .ok (.ifCond .lt 18, 3) := by decide +kernel
theorem dX2_named_4 : decode cX2_named 4 = .ok (.iload_n 1, 1) := by decide +kernel
theorem dX2_named_5 : decode cX2_named 5 = .ok (.bipush 16, 2) := by decide +kernel
theorem dX2_named_7 : decode cX2_named 7 = .ok (.if_icmp .ge 12, 3) := by decide +kernel
theorem dX2_named_10 : decode cX2_named 10 = .ok (.aload_n 0, 1) := by decide +kernel
theorem dX2_named_11 : decode cX2_named 11 = .ok (.getfield 17, 3) := by decide +kernel
theorem dX2_named_14 : decode cX2_named 14 = .ok (.iload_n 1, 1) := by decide +kernel
theorem dX2_named_15 : decode cX2_named 15 = .ok (.aaload, 1) := by decide +kernel
theorem dX2_named_16 : decode cX2_named 16 = .ok (.goto 4, 3) := by decide +kernel
theorem dX2_named_19 : decode cX2_named 19 = .ok (.aconst_null, 1) := by decide +kernel
theorem dX2_named_20 : decode cX2_named 20 = .ok (.areturn, 1) := by decide +kernel
theorem dX2_classNamed_0 : decode cX2_classNamed 0 = .ok (.aload_n 0, 1) := by decide +kernel
theorem dX2_classNamed_1 : decode cX2_classNamed 1 = .ok (.iload_n 1, 1) := by decide +kernel
theorem dX2_classNamed_2 : decode cX2_classNamed 2 = .ok (.invokevirtual 25, 3) := by decide +kernel
theorem dX2_classNamed_5 : decode cX2_classNamed 5 = .ok (.astore_n 2, 1) := by decide +kernel
theorem dX2_classNamed_6 : decode cX2_classNamed 6 = .ok (.aload_n 2, 1) := by decide +kernel
theorem dX2_classNamed_7 : decode cX2_classNamed 7 = .ok (.ifnull 10, 3) := by decide +kernel
theorem dX2_classNamed_10 : decode cX2_classNamed 10 = .ok (.aload_n 2, 1) := by decide +kernel
theorem dX2_classNamed_11 : decode cX2_classNamed 11 = .ok (.getfield 29, 3) := by decide +kernel
theorem dX2_classNamed_14 : decode cX2_classNamed 14 = .ok (.ifCond .eq 7, 3) := by decide +kernel
theorem dX2_classNamed_17 : decode cX2_classNamed 17 = .ok (.aconst_null, 1) := by decide +kernel
theorem dX2_classNamed_18 : decode cX2_classNamed 18 = .ok (.goto 4, 3) := by decide +kernel
theorem dX2_classNamed_21 : decode cX2_classNamed 21 = .ok (.aload_n 2, 1) := by decide +kernel
theorem dX2_classNamed_22 : decode cX2_classNamed 22 = .ok (.areturn, 1) := by decide +kernel
theorem dX2_interfaceNamed_0 : decode cX2_interfaceNamed 0 = .ok (.aload_n 0, 1) := by decide +kernel
theorem dX2_interfaceNamed_1 : decode cX2_interfaceNamed 1 = .ok (.iload_n 1, 1) := by decide +kernel
theorem dX2_interfaceNamed_2 : decode cX2_interfaceNamed 2 = .ok (.invokevirtual 25, 3) := by decide +kernel
theorem dX2_interfaceNamed_5 : decode cX2_interfaceNamed 5 = .ok (.astore_n 2, 1) := by decide +kernel
theorem dX2_interfaceNamed_6 : decode cX2_interfaceNamed 6 = .ok (.aload_n 2, 1) := by decide +kernel
theorem dX2_interfaceNamed_7 : decode cX2_interfaceNamed 7 = .ok (.ifnull 10, 3) := by decide +kernel
theorem dX2_interfaceNamed_10 : decode cX2_interfaceNamed 10 = .ok (.aload_n 2, 1) := by decide +kernel
theorem dX2_interfaceNamed_11 : decode cX2_interfaceNamed 11 = .ok (.getfield 29, 3) := by decide +kernel
theorem dX2_interfaceNamed_14 : decode cX2_interfaceNamed 14 = .ok (.ifCond .ne 7, 3) := by decide +kernel
theorem dX2_interfaceNamed_17 : decode cX2_interfaceNamed 17 = .ok (.aconst_null, 1) := by decide +kernel
theorem dX2_interfaceNamed_18 : decode cX2_interfaceNamed 18 = .ok (.goto 4, 3) := by decide +kernel
theorem dX2_interfaceNamed_21 : decode cX2_interfaceNamed 21 = .ok (.aload_n 2, 1) := by decide +kernel
theorem dX2_interfaceNamed_22 : decode cX2_interfaceNamed 22 = .ok (.areturn, 1) := by decide +kernel
theorem dX2_addType_0 : decode cX2_addType 0 = .ok (.aload_n 0, 1) := by decide +kernel
theorem dX2_addType_1 : decode cX2_addType 1 = .ok (.getfield 11, 3) := by decide +kernel
theorem dX2_addType_4 : decode cX2_addType 4 = .ok (.aload_n 0, 1) := by decide +kernel
theorem dX2_addType_5 : decode cX2_addType 5 = .ok (.getfield 33, 3) := by decide +kernel
theorem dX2_addType_8 : decode cX2_addType 8 = .ok (.aaload, 1) := by decide +kernel
theorem dX2_addType_9 : decode cX2_addType 9 = .ok (.astore 7, 2) := by decide +kernel
theorem dX2_addType_11 : decode cX2_addType 11 = .ok (.aload 7, 2) := by decide +kernel
theorem dX2_addType_13 : decode cX2_addType 13 = .ok (.iload_n 1, 1) := by decide +kernel
theorem dX2_addType_14 : decode cX2_addType 14 = .ok (.iload_n 2, 1) := by decide +kernel
theorem dX2_addType_15 : decode cX2_addType 15 = .ok (.iload_n 3, 1) := by decide +kernel
theorem dX2_addType_16 : decode cX2_addType 16 = .ok (.iload 4, 2) := by decide +kernel
theorem dX2_addType_18 : decode cX2_addType 18 = .ok (.iload 5, 2) := by decide +kernel
theorem dX2_addType_20 : decode cX2_addType 20 = .ok (.iload 6, 2) := by decide +kernel
theorem dX2_addType_22 : decode cX2_addType 22 = .ok (.invokevirtual 36, 3) := by decide +kernel
theorem dX2_addType_25 : decode cX2_addType 25 = .ok (.aload_n 0, 1) := by decide +kernel
theorem dX2_addType_26 : decode cX2_addType 26 = .ok (.getfield 17, 3) := by decide +kernel
theorem dX2_addType_29 : decode cX2_addType 29 = .ok (.iload_n 1, 1) := by decide +kernel
theorem dX2_addType_30 : decode cX2_addType 30 = .ok (.aload 7, 2) := by decide +kernel
theorem dX2_addType_32 : decode cX2_addType 32 = .ok (.aastore, 1) := by decide +kernel
theorem dX2_addType_33 : decode cX2_addType 33 = .ok (.aload_n 0, 1) := by decide +kernel
theorem dX2_addType_34 : decode cX2_addType 34 = .ok (.dup, 1) := by decide +kernel
theorem dX2_addType_35 : decode cX2_addType 35 = .ok (.getfield 33, 3) := by decide +kernel
theorem dX2_addType_38 : decode cX2_addType 38 = .ok (.iconst 1, 1) := by decide +kernel
theorem dX2_addType_39 : decode cX2_addType 39 = .ok (.iadd, 1) := by decide +kernel
theorem dX2_addType_40 : decode cX2_addType 40 = .ok (.putfield 33, 3) := by decide +kernel
theorem dX2_addType_43 : decode cX2_addType 43 = .ok (.return_, 1) := by decide +kernel
theorem dX2_dropType_0 : decode cX2_dropType 0 = .ok (.iconst 0, 1) := by decide +kernel
theorem dX2_dropType_1 : decode cX2_dropType 1 = .ok (.istore_n 2, 1) := by decide +kernel
theorem dX2_dropType_2 : decode cX2_dropType 2 = .ok (.iconst 0, 1) := by decide +kernel
theorem dX2_dropType_3 : decode cX2_dropType 3 = .ok (.istore_n 3, 1) := by decide +kernel
theorem dX2_dropType_4 : decode cX2_dropType 4 = .ok (.iload_n 3, 1) := by decide +kernel
theorem dX2_dropType_5 : decode cX2_dropType 5 = .ok (.aload_n 0, 1) := by decide +kernel
theorem dX2_dropType_6 : decode cX2_dropType 6 = .ok (.getfield 33, 3) := by decide +kernel
theorem dX2_dropType_9 : decode cX2_dropType 9 = .ok (.if_icmp .ge 40, 3) := by decide +kernel
theorem dX2_dropType_12 : decode cX2_dropType 12 = .ok (.aload_n 0, 1) := by decide +kernel
theorem dX2_dropType_13 : decode cX2_dropType 13 = .ok (.getfield 11, 3) := by decide +kernel
theorem dX2_dropType_16 : decode cX2_dropType 16 = .ok (.iload_n 3, 1) := by decide +kernel
theorem dX2_dropType_17 : decode cX2_dropType 17 = .ok (.aaload, 1) := by decide +kernel
theorem dX2_dropType_18 : decode cX2_dropType 18 = .ok (.getfield 40, 3) := by decide +kernel
theorem dX2_dropType_21 : decode cX2_dropType 21 = .ok (.aload_n 1, 1) := by decide +kernel
theorem dX2_dropType_22 : decode cX2_dropType 22 = .ok (.getfield 40, 3) := by decide +kernel
theorem dX2_dropType_25 : decode cX2_dropType 25 = .ok (.if_icmp .eq 18, 3) := by decide +kernel
theorem dX2_dropType_28 : decode cX2_dropType 28 = .ok (.aload_n 0, 1) := by decide +kernel
theorem dX2_dropType_29 : decode cX2_dropType 29 = .ok (.getfield 11, 3) := by decide +kernel
theorem dX2_dropType_32 : decode cX2_dropType 32 = .ok (.iload_n 2, 1) := by decide +kernel
theorem dX2_dropType_33 : decode cX2_dropType 33 = .ok (.aload_n 0, 1) := by decide +kernel
theorem dX2_dropType_34 : decode cX2_dropType 34 = .ok (.getfield 11, 3) := by decide +kernel
theorem dX2_dropType_37 : decode cX2_dropType 37 = .ok (.iload_n 3, 1) := by decide +kernel
theorem dX2_dropType_38 : decode cX2_dropType 38 = .ok (.aaload, 1) := by decide +kernel
theorem dX2_dropType_39 : decode cX2_dropType 39 = .ok (.aastore, 1) := by decide +kernel
theorem dX2_dropType_40 : decode cX2_dropType 40 = .ok (.iinc 2 1, 3) := by decide +kernel
theorem dX2_dropType_43 : decode cX2_dropType 43 = .ok (.iinc 3 1, 3) := by decide +kernel
theorem dX2_dropType_46 : decode cX2_dropType 46 = .ok (.goto (-42), 3) := by decide +kernel
theorem dX2_dropType_49 : decode cX2_dropType 49 = .ok (.aload_n 0, 1) := by decide +kernel
theorem dX2_dropType_50 : decode cX2_dropType 50 = .ok (.getfield 17, 3) := by decide +kernel
theorem dX2_dropType_53 : decode cX2_dropType 53 = .ok (.aload_n 1, 1) := by decide +kernel
theorem dX2_dropType_54 : decode cX2_dropType 54 = .ok (.getfield 40, 3) := by decide +kernel
theorem dX2_dropType_57 : decode cX2_dropType 57 = .ok (.aconst_null, 1) := by decide +kernel
theorem dX2_dropType_58 : decode cX2_dropType 58 = .ok (.aastore, 1) := by decide +kernel
theorem dX2_dropType_59 : decode cX2_dropType 59 = .ok (.iload_n 2, 1) := by decide +kernel
theorem dX2_dropType_60 : decode cX2_dropType 60 = .ok (.aload_n 0, 1) := by decide +kernel
theorem dX2_dropType_61 : decode cX2_dropType 61 = .ok (.getfield 33, 3) := by decide +kernel
theorem dX2_dropType_64 : decode cX2_dropType 64 = .ok (.if_icmp .ge 10, 3) := by decide +kernel
theorem dX2_dropType_67 : decode cX2_dropType 67 = .ok (.aload_n 0, 1) := by decide +kernel
theorem dX2_dropType_68 : decode cX2_dropType 68 = .ok (.getfield 11, 3) := by decide +kernel
theorem dX2_dropType_71 : decode cX2_dropType 71 = .ok (.iload_n 2, 1) := by decide +kernel
theorem dX2_dropType_72 : decode cX2_dropType 72 = .ok (.aload_n 1, 1) := by decide +kernel
theorem dX2_dropType_73 : decode cX2_dropType 73 = .ok (.aastore, 1) := by decide +kernel
theorem dX2_dropType_74 : decode cX2_dropType 74 = .ok (.aload_n 0, 1) := by decide +kernel
theorem dX2_dropType_75 : decode cX2_dropType 75 = .ok (.iload_n 2, 1) := by decide +kernel
theorem dX2_dropType_76 : decode cX2_dropType 76 = .ok (.putfield 33, 3) := by decide +kernel
theorem dX2_dropType_79 : decode cX2_dropType 79 = .ok (.return_, 1) := by decide +kernel
theorem dX2_takeAll_0 : decode cX2_takeAll 0 = .ok (.iconst 0, 1) := by decide +kernel
theorem dX2_takeAll_1 : decode cX2_takeAll 1 = .ok (.istore_n 2, 1) := by decide +kernel
theorem dX2_takeAll_2 : decode cX2_takeAll 2 = .ok (.iload_n 2, 1) := by decide +kernel
theorem dX2_takeAll_3 : decode cX2_takeAll 3 = .ok (.aload_n 1, 1) := by decide +kernel
theorem dX2_takeAll_4 : decode cX2_takeAll 4 = .ok (.getfield 33, 3) := by decide +kernel
theorem dX2_takeAll_7 : decode cX2_takeAll 7 = .ok (.if_icmp .ge 44, 3) := by decide +kernel
theorem dX2_takeAll_10 : decode cX2_takeAll 10 = .ok (.aload_n 0, 1) := by decide +kernel
theorem dX2_takeAll_11 : decode cX2_takeAll 11 = .ok (.getfield 11, 3) := by decide +kernel
theorem dX2_takeAll_14 : decode cX2_takeAll 14 = .ok (.iload_n 2, 1) := by decide +kernel
theorem dX2_takeAll_15 : decode cX2_takeAll 15 = .ok (.aaload, 1) := by decide +kernel
theorem dX2_takeAll_16 : decode cX2_takeAll 16 = .ok (.aload_n 1, 1) := by decide +kernel
theorem dX2_takeAll_17 : decode cX2_takeAll 17 = .ok (.getfield 11, 3) := by decide +kernel
theorem dX2_takeAll_20 : decode cX2_takeAll 20 = .ok (.iload_n 2, 1) := by decide +kernel
theorem dX2_takeAll_21 : decode cX2_takeAll 21 = .ok (.aaload, 1) := by decide +kernel
theorem dX2_takeAll_22 : decode cX2_takeAll 22 = .ok (.invokevirtual 43, 3) := by decide +kernel
theorem dX2_takeAll_25 : decode cX2_takeAll 25 = .ok (.aload_n 0, 1) := by decide +kernel
theorem dX2_takeAll_26 : decode cX2_takeAll 26 = .ok (.getfield 17, 3) := by decide +kernel
theorem dX2_takeAll_29 : decode cX2_takeAll 29 = .ok (.aload_n 0, 1) := by decide +kernel
theorem dX2_takeAll_30 : decode cX2_takeAll 30 = .ok (.getfield 11, 3) := by decide +kernel
theorem dX2_takeAll_33 : decode cX2_takeAll 33 = .ok (.iload_n 2, 1) := by decide +kernel
theorem dX2_takeAll_34 : decode cX2_takeAll 34 = .ok (.aaload, 1) := by decide +kernel
theorem dX2_takeAll_35 : decode cX2_takeAll 35 = .ok (.getfield 40, 3) := by decide +kernel
theorem dX2_takeAll_38 : decode cX2_takeAll 38 = .ok (.aload_n 0, 1) := by decide +kernel
theorem dX2_takeAll_39 : decode cX2_takeAll 39 = .ok (.getfield 11, 3) := by decide +kernel
theorem dX2_takeAll_42 : decode cX2_takeAll 42 = .ok (.iload_n 2, 1) := by decide +kernel
theorem dX2_takeAll_43 : decode cX2_takeAll 43 = .ok (.aaload, 1) := by decide +kernel
theorem dX2_takeAll_44 : decode cX2_takeAll 44 = .ok (.aastore, 1) := by decide +kernel
theorem dX2_takeAll_45 : decode cX2_takeAll 45 = .ok (.iinc 2 1, 3) := by decide +kernel
theorem dX2_takeAll_48 : decode cX2_takeAll 48 = .ok (.goto (-46), 3) := by decide +kernel
theorem dX2_takeAll_51 : decode cX2_takeAll 51 = .ok (.aload_n 0, 1) := by decide +kernel
theorem dX2_takeAll_52 : decode cX2_takeAll 52 = .ok (.aload_n 1, 1) := by decide +kernel
theorem dX2_takeAll_53 : decode cX2_takeAll 53 = .ok (.getfield 33, 3) := by decide +kernel
theorem dX2_takeAll_56 : decode cX2_takeAll 56 = .ok (.putfield 33, 3) := by decide +kernel
theorem dX2_takeAll_59 : decode cX2_takeAll 59 = .ok (.return_, 1) := by decide +kernel
theorem dX2_countMembers_0 : decode cX2_countMembers 0 = .ok (.iconst 0, 1) := by decide +kernel
theorem dX2_countMembers_1 : decode cX2_countMembers 1 = .ok (.istore_n 1, 1) := by decide +kernel
theorem dX2_countMembers_2 : decode cX2_countMembers 2 = .ok (.iconst 0, 1) := by decide +kernel
theorem dX2_countMembers_3 : decode cX2_countMembers 3 = .ok (.istore_n 2, 1) := by decide +kernel
theorem dX2_countMembers_4 : decode cX2_countMembers 4 = .ok (.iload_n 2, 1) := by decide +kernel
theorem dX2_countMembers_5 : decode cX2_countMembers 5 = .ok (.aload_n 0, 1) := by decide +kernel
theorem dX2_countMembers_6 : decode cX2_countMembers 6 = .ok (.getfield 33, 3) := by decide +kernel
theorem dX2_countMembers_9 : decode cX2_countMembers 9 = .ok (.if_icmp .ge 21, 3) := by decide +kernel
theorem dX2_countMembers_12 : decode cX2_countMembers 12 = .ok (.iload_n 1, 1) := by decide +kernel
theorem dX2_countMembers_13 : decode cX2_countMembers 13 = .ok (.aload_n 0, 1) := by decide +kernel
theorem dX2_countMembers_14 : decode cX2_countMembers 14 = .ok (.getfield 11, 3) := by decide +kernel
theorem dX2_countMembers_17 : decode cX2_countMembers 17 = .ok (.iload_n 2, 1) := by decide +kernel
theorem dX2_countMembers_18 : decode cX2_countMembers 18 = .ok (.aaload, 1) := by decide +kernel
theorem dX2_countMembers_19 : decode cX2_countMembers 19 = .ok (.getfield 47, 3) := by decide +kernel
theorem dX2_countMembers_22 : decode cX2_countMembers 22 = .ok (.iadd, 1) := by decide +kernel
theorem dX2_countMembers_23 : decode cX2_countMembers 23 = .ok (.istore_n 1, 1) := by decide +kernel
theorem dX2_countMembers_24 : decode cX2_countMembers 24 = .ok (.iinc 2 1, 3) := by decide +kernel
theorem dX2_countMembers_27 : decode cX2_countMembers 27 = .ok (.goto (-23), 3) := by decide +kernel
theorem dX2_countMembers_30 : decode cX2_countMembers 30 = .ok (.iload_n 1, 1) := by decide +kernel
theorem dX2_countMembers_31 : decode cX2_countMembers 31 = .ok (.ireturn, 1) := by decide +kernel
theorem dX2_firstThatLeansWrong_0 : decode cX2_firstThatLeansWrong 0 = .ok (.iconst 0, 1) := by decide +kernel
theorem dX2_firstThatLeansWrong_1 : decode cX2_firstThatLeansWrong 1 = .ok (.istore_n 1, 1) := by decide +kernel
theorem dX2_firstThatLeansWrong_2 : decode cX2_firstThatLeansWrong 2 = .ok (.iload_n 1, 1) := by decide +kernel
theorem dX2_firstThatLeansWrong_3 : decode cX2_firstThatLeansWrong 3 = .ok (.aload_n 0, 1) := by decide +kernel
theorem dX2_firstThatLeansWrong_4 : decode cX2_firstThatLeansWrong 4 = .ok (.getfield 33, 3) := by decide +kernel
theorem dX2_firstThatLeansWrong_7 : decode cX2_firstThatLeansWrong 7 = .ok (.if_icmp .ge 32, 3) := by decide +kernel
theorem dX2_firstThatLeansWrong_10 : decode cX2_firstThatLeansWrong 10 = .ok (.aload_n 0, 1) := by decide +kernel
theorem dX2_firstThatLeansWrong_11 : decode cX2_firstThatLeansWrong 11 = .ok (.aload_n 0, 1) := by decide +kernel
theorem dX2_firstThatLeansWrong_12 : decode cX2_firstThatLeansWrong 12 = .ok (.getfield 11, 3) := by decide +kernel
theorem dX2_firstThatLeansWrong_15 : decode cX2_firstThatLeansWrong 15 = .ok (.iload_n 1, 1) := by decide +kernel
theorem dX2_firstThatLeansWrong_16 : decode cX2_firstThatLeansWrong 16 = .ok (.aaload, 1) := by decide +kernel
theorem dX2_firstThatLeansWrong_17 : decode cX2_firstThatLeansWrong 17 = .ok (.invokevirtual 50, 3) := by decide +kernel
theorem dX2_firstThatLeansWrong_20 : decode cX2_firstThatLeansWrong 20 = .ok (.ifCond .ne 13, 3) := by decide +kernel
theorem dX2_firstThatLeansWrong_23 : decode cX2_firstThatLeansWrong 23 = .ok (.aload_n 0, 1) := by decide +kernel
theorem dX2_firstThatLeansWrong_24 : decode cX2_firstThatLeansWrong 24 = .ok (.getfield 11, 3) := by decide +kernel
theorem dX2_firstThatLeansWrong_27 : decode cX2_firstThatLeansWrong 27 = .ok (.iload_n 1, 1) := by decide +kernel
theorem dX2_firstThatLeansWrong_28 : decode cX2_firstThatLeansWrong 28 = .ok (.aaload, 1) := by decide +kernel
theorem dX2_firstThatLeansWrong_29 : decode cX2_firstThatLeansWrong 29 = .ok (.getfield 40, 3) := by decide +kernel
theorem dX2_firstThatLeansWrong_32 : decode cX2_firstThatLeansWrong 32 = .ok (.ireturn, 1) := by decide +kernel
theorem dX2_firstThatLeansWrong_33 : decode cX2_firstThatLeansWrong 33 = .ok (.iinc 1 1, 3) := by decide +kernel
theorem dX2_firstThatLeansWrong_36 : decode cX2_firstThatLeansWrong 36 = .ok (.goto (-34), 3) := by decide +kernel
theorem dX2_firstThatLeansWrong_39 : decode cX2_firstThatLeansWrong 39 = .ok (.iconst (-1), 1) := by decide +kernel
theorem dX2_firstThatLeansWrong_40 : decode cX2_firstThatLeansWrong 40 = .ok (.ireturn, 1) := by decide +kernel
theorem dX2_leansRight_0 : decode cX2_leansRight 0 = .ok (.aload_n 1, 1) := by decide +kernel
theorem dX2_leansRight_1 : decode cX2_leansRight 1 = .ok (.getfield 54, 3) := by decide +kernel
theorem dX2_leansRight_4 : decode cX2_leansRight 4 = .ok (.iconst (-1), 1) := by decide +kernel
theorem dX2_leansRight_5 : decode cX2_leansRight 5 = .ok (.if_icmp .eq 16, 3) := by decide +kernel
theorem dX2_leansRight_8 : decode cX2_leansRight 8 = .ok (.aload_n 0, 1) := by decide +kernel
theorem dX2_leansRight_9 : decode cX2_leansRight 9 = .ok (.aload_n 1, 1) := by decide +kernel
theorem dX2_leansRight_10 : decode cX2_leansRight 10 = .ok (.getfield 54, 3) := by decide +kernel
theorem dX2_leansRight_13 : decode cX2_leansRight 13 = .ok (.invokevirtual 57, 3) := by decide +kernel
theorem dX2_leansRight_16 : decode cX2_leansRight 16 = .ok (.ifnonnull 5, 3) := by decide +kernel
theorem dX2_leansRight_19 : decode cX2_leansRight 19 = .ok (.iconst 0, 1) := by decide +kernel
theorem dX2_leansRight_20 : decode cX2_leansRight 20 = .ok (.ireturn, 1) := by decide +kernel
theorem dX2_leansRight_21 : decode cX2_leansRight 21 = .ok (.iconst 0, 1) := by decide +kernel
theorem dX2_leansRight_22 : decode cX2_leansRight 22 = .ok (.istore_n 2, 1) := by decide +kernel
theorem dX2_leansRight_23 : decode cX2_leansRight 23 = .ok (.iload_n 2, 1) := by decide +kernel
theorem dX2_leansRight_24 : decode cX2_leansRight 24 = .ok (.aload_n 1, 1) := by decide +kernel
theorem dX2_leansRight_25 : decode cX2_leansRight 25 = .ok (.getfield 60, 3) := by decide +kernel
theorem dX2_leansRight_28 : decode cX2_leansRight 28 = .ok (.if_icmp .ge 24, 3) := by decide +kernel
theorem dX2_leansRight_31 : decode cX2_leansRight 31 = .ok (.aload_n 0, 1) := by decide +kernel
theorem dX2_leansRight_32 : decode cX2_leansRight 32 = .ok (.aload_n 1, 1) := by decide +kernel
theorem dX2_leansRight_33 : decode cX2_leansRight 33 = .ok (.getfield 63, 3) := by decide +kernel
theorem dX2_leansRight_36 : decode cX2_leansRight 36 = .ok (.iload_n 2, 1) := by decide +kernel
theorem dX2_leansRight_37 : decode cX2_leansRight 37 = .ok (.iaload, 1) := by decide +kernel
theorem dX2_leansRight_38 : decode cX2_leansRight 38 = .ok (.invokevirtual 67, 3) := by decide +kernel
theorem dX2_leansRight_41 : decode cX2_leansRight 41 = .ok (.ifnonnull 5, 3) := by decide +kernel
theorem dX2_leansRight_44 : decode cX2_leansRight 44 = .ok (.iconst 0, 1) := by decide +kernel
theorem dX2_leansRight_45 : decode cX2_leansRight 45 = .ok (.ireturn, 1) := by decide +kernel
theorem dX2_leansRight_46 : decode cX2_leansRight 46 = .ok (.iinc 2 1, 3) := by decide +kernel
theorem dX2_leansRight_49 : decode cX2_leansRight 49 = .ok (.goto (-26), 3) := by decide +kernel
theorem dX2_leansRight_52 : decode cX2_leansRight 52 = .ok (.iconst 1, 1) := by decide +kernel
theorem dX2_leansRight_53 : decode cX2_leansRight 53 = .ok (.ireturn, 1) := by decide +kernel
theorem dX2_firstAboveItself_0 : decode cX2_firstAboveItself 0 = .ok (.iconst 0, 1) := by decide +kernel
theorem dX2_firstAboveItself_1 : decode cX2_firstAboveItself 1 = .ok (.istore_n 1, 1) := by decide +kernel
theorem dX2_firstAboveItself_2 : decode cX2_firstAboveItself 2 = .ok (.iload_n 1, 1) := by decide +kernel
theorem dX2_firstAboveItself_3 : decode cX2_firstAboveItself 3 = .ok (.aload_n 0, 1) := by decide +kernel
theorem dX2_firstAboveItself_4 : decode cX2_firstAboveItself 4 = .ok (.getfield 33, 3) := by decide +kernel
theorem dX2_firstAboveItself_7 : decode cX2_firstAboveItself 7 = .ok (.if_icmp .ge 35, 3) := by decide +kernel
theorem dX2_firstAboveItself_10 : decode cX2_firstAboveItself 10 = .ok (.aload_n 0, 1) := by decide +kernel
theorem dX2_firstAboveItself_11 : decode cX2_firstAboveItself 11 = .ok (.getfield 11, 3) := by decide +kernel
theorem dX2_firstAboveItself_14 : decode cX2_firstAboveItself 14 = .ok (.iload_n 1, 1) := by decide +kernel
theorem dX2_firstAboveItself_15 : decode cX2_firstAboveItself 15 = .ok (.aaload, 1) := by decide +kernel
theorem dX2_firstAboveItself_16 : decode cX2_firstAboveItself 16 = .ok (.invokevirtual 70, 3) := by decide +kernel
theorem dX2_firstAboveItself_19 : decode cX2_firstAboveItself 19 = .ok (.aload_n 0, 1) := by decide +kernel
theorem dX2_firstAboveItself_20 : decode cX2_firstAboveItself 20 = .ok (.aload_n 0, 1) := by decide +kernel
theorem dX2_firstAboveItself_21 : decode cX2_firstAboveItself 21 = .ok (.getfield 11, 3) := by decide +kernel
theorem dX2_firstAboveItself_24 : decode cX2_firstAboveItself 24 = .ok (.iload_n 1, 1) := by decide +kernel
theorem dX2_firstAboveItself_25 : decode cX2_firstAboveItself 25 = .ok (.aaload, 1) := by decide +kernel
theorem dX2_firstAboveItself_26 : decode cX2_firstAboveItself 26 = .ok (.aload_n 0, 1) := by decide +kernel
theorem dX2_firstAboveItself_27 : decode cX2_firstAboveItself 27 = .ok (.getfield 11, 3) := by decide +kernel
theorem dX2_firstAboveItself_30 : decode cX2_firstAboveItself 30 = .ok (.iload_n 1, 1) := by decide +kernel
theorem dX2_firstAboveItself_31 : decode cX2_firstAboveItself 31 = .ok (.aaload, 1) := by decide +kernel
theorem dX2_firstAboveItself_32 : decode cX2_firstAboveItself 32 = .ok (.iconst 0, 1) := by decide +kernel
theorem dX2_firstAboveItself_33 : decode cX2_firstAboveItself 33 = .ok (.invokestatic 73, 3) := by decide +kernel
theorem dX2_firstAboveItself_36 : decode cX2_firstAboveItself 36 = .ok (.iinc 1 1, 3) := by decide +kernel
theorem dX2_firstAboveItself_39 : decode cX2_firstAboveItself 39 = .ok (.goto (-37), 3) := by decide +kernel
theorem dX2_firstAboveItself_42 : decode cX2_firstAboveItself 42 = .ok (.iconst 0, 1) := by decide +kernel
theorem dX2_firstAboveItself_43 : decode cX2_firstAboveItself 43 = .ok (.istore_n 1, 1) := by decide +kernel
theorem dX2_firstAboveItself_44 : decode cX2_firstAboveItself 44 = .ok (.iload_n 1, 1) := by decide +kernel
theorem dX2_firstAboveItself_45 : decode cX2_firstAboveItself 45 = .ok (.aload_n 0, 1) := by decide +kernel
theorem dX2_firstAboveItself_46 : decode cX2_firstAboveItself 46 = .ok (.getfield 33, 3) := by decide +kernel
theorem dX2_firstAboveItself_49 : decode cX2_firstAboveItself 49 = .ok (.if_icmp .ge 40, 3) := by decide +kernel
theorem dX2_firstAboveItself_52 : decode cX2_firstAboveItself 52 = .ok (.aload_n 0, 1) := by decide +kernel
theorem dX2_firstAboveItself_53 : decode cX2_firstAboveItself 53 = .ok (.getfield 11, 3) := by decide +kernel
theorem dX2_firstAboveItself_56 : decode cX2_firstAboveItself 56 = .ok (.iload_n 1, 1) := by decide +kernel
theorem dX2_firstAboveItself_57 : decode cX2_firstAboveItself 57 = .ok (.aaload, 1) := by decide +kernel
theorem dX2_firstAboveItself_58 : decode cX2_firstAboveItself 58 = .ok (.aload_n 0, 1) := by decide +kernel
theorem dX2_firstAboveItself_59 : decode cX2_firstAboveItself 59 = .ok (.getfield 11, 3) := by decide +kernel
theorem dX2_firstAboveItself_62 : decode cX2_firstAboveItself 62 = .ok (.iload_n 1, 1) := by decide +kernel
theorem dX2_firstAboveItself_63 : decode cX2_firstAboveItself 63 = .ok (.aaload, 1) := by decide +kernel
theorem dX2_firstAboveItself_64 : decode cX2_firstAboveItself 64 = .ok (.getfield 40, 3) := by decide +kernel
theorem dX2_firstAboveItself_67 : decode cX2_firstAboveItself 67 = .ok (.invokevirtual 77, 3) := by decide +kernel
theorem dX2_firstAboveItself_70 : decode cX2_firstAboveItself 70 = .ok (.ifCond .eq 13, 3) := by decide +kernel
theorem dX2_firstAboveItself_73 : decode cX2_firstAboveItself 73 = .ok (.aload_n 0, 1) := by decide +kernel
theorem dX2_firstAboveItself_74 : decode cX2_firstAboveItself 74 = .ok (.getfield 11, 3) := by decide +kernel
theorem dX2_firstAboveItself_77 : decode cX2_firstAboveItself 77 = .ok (.iload_n 1, 1) := by decide +kernel
theorem dX2_firstAboveItself_78 : decode cX2_firstAboveItself 78 = .ok (.aaload, 1) := by decide +kernel
theorem dX2_firstAboveItself_79 : decode cX2_firstAboveItself 79 = .ok (.getfield 40, 3) := by decide +kernel
theorem dX2_firstAboveItself_82 : decode cX2_firstAboveItself 82 = .ok (.ireturn, 1) := by decide +kernel
theorem dX2_firstAboveItself_83 : decode cX2_firstAboveItself 83 = .ok (.iinc 1 1, 3) := by decide +kernel
theorem dX2_firstAboveItself_86 : decode cX2_firstAboveItself 86 = .ok (.goto (-42), 3) := by decide +kernel
theorem dX2_firstAboveItself_89 : decode cX2_firstAboveItself 89 = .ok (.iconst (-1), 1) := by decide +kernel
theorem dX2_firstAboveItself_90 : decode cX2_firstAboveItself 90 = .ok (.ireturn, 1) := by decide +kernel
theorem dX2_climb_0 : decode cX2_climb 0 = .ok (.iconst 0, 1) := by decide +kernel
theorem dX2_climb_1 : decode cX2_climb 1 = .ok (.istore 4, 2) := by decide +kernel
theorem dX2_climb_3 : decode cX2_climb 3 = .ok (.iload 4, 2) := by decide +kernel
theorem dX2_climb_5 : decode cX2_climb 5 = .ok (.aload_n 2, 1) := by decide +kernel
theorem dX2_climb_6 : decode cX2_climb 6 = .ok (.getfield 60, 3) := by decide +kernel
theorem dX2_climb_9 : decode cX2_climb 9 = .ok (.if_icmp .ge 22, 3) := by decide +kernel
theorem dX2_climb_12 : decode cX2_climb 12 = .ok (.aload_n 0, 1) := by decide +kernel
theorem dX2_climb_13 : decode cX2_climb 13 = .ok (.aload_n 1, 1) := by decide +kernel
theorem dX2_climb_14 : decode cX2_climb 14 = .ok (.aload_n 2, 1) := by decide +kernel
theorem dX2_climb_15 : decode cX2_climb 15 = .ok (.getfield 63, 3) := by decide +kernel
theorem dX2_climb_18 : decode cX2_climb 18 = .ok (.iload 4, 2) := by decide +kernel
theorem dX2_climb_20 : decode cX2_climb 20 = .ok (.iaload, 1) := by decide +kernel
theorem dX2_climb_21 : decode cX2_climb 21 = .ok (.iload_n 3, 1) := by decide +kernel
theorem dX2_climb_22 : decode cX2_climb 22 = .ok (.invokestatic 81, 3) := by decide +kernel
theorem dX2_climb_25 : decode cX2_climb 25 = .ok (.iinc 4 1, 3) := by decide +kernel
theorem dX2_climb_28 : decode cX2_climb 28 = .ok (.goto (-25), 3) := by decide +kernel
theorem dX2_climb_31 : decode cX2_climb 31 = .ok (.aload_n 0, 1) := by decide +kernel
theorem dX2_climb_32 : decode cX2_climb 32 = .ok (.aload_n 1, 1) := by decide +kernel
theorem dX2_climb_33 : decode cX2_climb 33 = .ok (.aload_n 2, 1) := by decide +kernel
theorem dX2_climb_34 : decode cX2_climb 34 = .ok (.getfield 54, 3) := by decide +kernel
theorem dX2_climb_37 : decode cX2_climb 37 = .ok (.iload_n 3, 1) := by decide +kernel
theorem dX2_climb_38 : decode cX2_climb 38 = .ok (.invokestatic 81, 3) := by decide +kernel
theorem dX2_climb_41 : decode cX2_climb 41 = .ok (.return_, 1) := by decide +kernel
theorem dX2_climbTo_0 : decode cX2_climbTo 0 = .ok (.aload_n 0, 1) := by decide +kernel
theorem dX2_climbTo_1 : decode cX2_climbTo 1 = .ok (.iload_n 2, 1) := by decide +kernel
theorem dX2_climbTo_2 : decode cX2_climbTo 2 = .ok (.invokevirtual 25, 3) := by decide +kernel
theorem dX2_climbTo_5 : decode cX2_climbTo 5 = .ok (.astore 4, 2) := by decide +kernel
theorem dX2_climbTo_7 : decode cX2_climbTo 7 = .ok (.aload 4, 2) := by decide +kernel
theorem dX2_climbTo_9 : decode cX2_climbTo 9 = .ok (.ifnull 17, 3) := by decide +kernel
theorem dX2_climbTo_12 : decode cX2_climbTo 12 = .ok (.aload_n 1, 1) := by decide +kernel
theorem dX2_climbTo_13 : decode cX2_climbTo 13 = .ok (.iload_n 2, 1) := by decide +kernel
theorem dX2_climbTo_14 : decode cX2_climbTo 14 = .ok (.invokevirtual 77, 3) := by decide +kernel
theorem dX2_climbTo_17 : decode cX2_climbTo 17 = .ok (.ifCond .ne 9, 3) := by decide +kernel
theorem dX2_climbTo_20 : decode cX2_climbTo 20 = .ok (.iload_n 3, 1) := by decide +kernel
theorem dX2_climbTo_21 : decode cX2_climbTo 21 = .ok (.bipush 10, 2) := by decide +kernel
theorem dX2_climbTo_23 : decode cX2_climbTo 23 = .ok (.if_icmp .le 4, 3) := by decide +kernel
theorem dX2_climbTo_26 : decode cX2_climbTo 26 = .ok (.return_, 1) := by decide +kernel
theorem dX2_climbTo_27 : decode cX2_climbTo 27 = .ok (.aload_n 1, 1) := by decide +kernel
theorem dX2_climbTo_28 : decode cX2_climbTo 28 = .ok (.iload_n 2, 1) := by decide +kernel
theorem dX2_climbTo_29 : decode cX2_climbTo 29 = .ok (.invokevirtual 85, 3) := by decide +kernel
theorem dX2_climbTo_32 : decode cX2_climbTo 32 = .ok (.aload_n 0, 1) := by decide +kernel
theorem dX2_climbTo_33 : decode cX2_climbTo 33 = .ok (.aload_n 1, 1) := by decide +kernel
theorem dX2_climbTo_34 : decode cX2_climbTo 34 = .ok (.aload 4, 2) := by decide +kernel
theorem dX2_climbTo_36 : decode cX2_climbTo 36 = .ok (.iload_n 3, 1) := by decide +kernel
theorem dX2_climbTo_37 : decode cX2_climbTo 37 = .ok (.iconst 1, 1) := by decide +kernel
theorem dX2_climbTo_38 : decode cX2_climbTo 38 = .ok (.iadd, 1) := by decide +kernel
theorem dX2_climbTo_39 : decode cX2_climbTo 39 = .ok (.invokestatic 73, 3) := by decide +kernel
theorem dX2_climbTo_42 : decode cX2_climbTo 42 = .ok (.return_, 1) := by decide +kernel
theorem dX2_hasAbove_0 : decode cX2_hasAbove 0 = .ok (.aload_n 0, 1) := by decide +kernel
theorem dX2_hasAbove_1 : decode cX2_hasAbove 1 = .ok (.iload_n 2, 1) := by decide +kernel
theorem dX2_hasAbove_2 : decode cX2_hasAbove 2 = .ok (.invokevirtual 25, 3) := by decide +kernel
theorem dX2_hasAbove_5 : decode cX2_hasAbove 5 = .ok (.astore_n 3, 1) := by decide +kernel
theorem dX2_hasAbove_6 : decode cX2_hasAbove 6 = .ok (.aload_n 3, 1) := by decide +kernel
theorem dX2_hasAbove_7 : decode cX2_hasAbove 7 = .ok (.ifnull 23, 3) := by decide +kernel
theorem dX2_hasAbove_10 : decode cX2_hasAbove 10 = .ok (.aload_n 0, 1) := by decide +kernel
theorem dX2_hasAbove_11 : decode cX2_hasAbove 11 = .ok (.iload_n 1, 1) := by decide +kernel
theorem dX2_hasAbove_12 : decode cX2_hasAbove 12 = .ok (.invokevirtual 25, 3) := by decide +kernel
theorem dX2_hasAbove_15 : decode cX2_hasAbove 15 = .ok (.ifnull 15, 3) := by decide +kernel
theorem dX2_hasAbove_18 : decode cX2_hasAbove 18 = .ok (.aload_n 3, 1) := by decide +kernel
theorem dX2_hasAbove_19 : decode cX2_hasAbove 19 = .ok (.iload_n 1, 1) := by decide +kernel
theorem dX2_hasAbove_20 : decode cX2_hasAbove 20 = .ok (.invokevirtual 77, 3) := by decide +kernel
theorem dX2_hasAbove_23 : decode cX2_hasAbove 23 = .ok (.ifCond .eq 7, 3) := by decide +kernel
theorem dX2_hasAbove_26 : decode cX2_hasAbove 26 = .ok (.iconst 1, 1) := by decide +kernel
theorem dX2_hasAbove_27 : decode cX2_hasAbove 27 = .ok (.goto 4, 3) := by decide +kernel
theorem dX2_hasAbove_30 : decode cX2_hasAbove 30 = .ok (.iconst 0, 1) := by decide +kernel
theorem dX2_hasAbove_31 : decode cX2_hasAbove 31 = .ok (.ireturn, 1) := by decide +kernel
theorem dX2_found_0 : decode cX2_found 0 = .ok (.aload_n 1, 1) := by decide +kernel
theorem dX2_found_1 : decode cX2_found 1 = .ok (.ifnull 8, 3) := by decide +kernel
theorem dX2_found_4 : decode cX2_found 4 = .ok (.iload_n 3, 1) := by decide +kernel
theorem dX2_found_5 : decode cX2_found 5 = .ok (.iconst (-1), 1) := by decide +kernel
theorem dX2_found_6 : decode cX2_found 6 = .ok (.if_icmp .ne 5, 3) := by decide +kernel
theorem dX2_found_9 : decode cX2_found 9 = .ok (.aconst_null, 1) := by decide +kernel
theorem dX2_found_10 : decode cX2_found 10 = .ok (.areturn, 1) := by decide +kernel
theorem dX2_found_11 : decode cX2_found 11 = .ok (.iload_n 2, 1) := by decide +kernel
theorem dX2_found_12 : decode cX2_found 12 = .ok (.ifCond .ne 10, 3) := by decide +kernel
theorem dX2_found_15 : decode cX2_found 15 = .ok (.aload_n 0, 1) := by decide +kernel
theorem dX2_found_16 : decode cX2_found 16 = .ok (.aload_n 1, 1) := by decide +kernel
theorem dX2_found_17 : decode cX2_found 17 = .ok (.iload_n 3, 1) := by decide +kernel
theorem dX2_found_18 : decode cX2_found 18 = .ok (.invokevirtual 89, 3) := by decide +kernel
theorem dX2_found_21 : decode cX2_found 21 = .ok (.areturn, 1) := by decide +kernel
theorem dX2_found_22 : decode cX2_found 22 = .ok (.aload_n 0, 1) := by decide +kernel
theorem dX2_found_23 : decode cX2_found 23 = .ok (.aload_n 1, 1) := by decide +kernel
theorem dX2_found_24 : decode cX2_found 24 = .ok (.iload_n 3, 1) := by decide +kernel
theorem dX2_found_25 : decode cX2_found 25 = .ok (.invokevirtual 93, 3) := by decide +kernel
theorem dX2_found_28 : decode cX2_found 28 = .ok (.astore 4, 2) := by decide +kernel
theorem dX2_found_30 : decode cX2_found 30 = .ok (.aload 4, 2) := by decide +kernel
theorem dX2_found_32 : decode cX2_found 32 = .ok (.ifnull 6, 3) := by decide +kernel
theorem dX2_found_35 : decode cX2_found 35 = .ok (.aload 4, 2) := by decide +kernel
theorem dX2_found_37 : decode cX2_found 37 = .ok (.areturn, 1) := by decide +kernel
theorem dX2_found_38 : decode cX2_found 38 = .ok (.aload_n 0, 1) := by decide +kernel
theorem dX2_found_39 : decode cX2_found 39 = .ok (.aload_n 1, 1) := by decide +kernel
theorem dX2_found_40 : decode cX2_found 40 = .ok (.iload_n 3, 1) := by decide +kernel
theorem dX2_found_41 : decode cX2_found 41 = .ok (.invokevirtual 96, 3) := by decide +kernel
theorem dX2_found_44 : decode cX2_found 44 = .ok (.istore 5, 2) := by decide +kernel
theorem dX2_found_46 : decode cX2_found 46 = .ok (.aload_n 0, 1) := by decide +kernel
theorem dX2_found_47 : decode cX2_found 47 = .ok (.iload 5, 2) := by decide +kernel
theorem dX2_found_49 : decode cX2_found 49 = .ok (.iload_n 3, 1) := by decide +kernel
theorem dX2_found_50 : decode cX2_found 50 = .ok (.invokevirtual 100, 3) := by decide +kernel
theorem dX2_found_53 : decode cX2_found 53 = .ok (.astore 6, 2) := by decide +kernel
theorem dX2_found_55 : decode cX2_found 55 = .ok (.aload 6, 2) := by decide +kernel
theorem dX2_found_57 : decode cX2_found 57 = .ok (.ifnull 8, 3) := by decide +kernel
theorem dX2_found_60 : decode cX2_found 60 = .ok (.aload 6, 2) := by decide +kernel
theorem dX2_found_62 : decode cX2_found 62 = .ok (.goto 9, 3) := by decide +kernel
theorem dX2_found_65 : decode cX2_found 65 = .ok (.aload_n 0, 1) := by decide +kernel
theorem dX2_found_66 : decode cX2_found 66 = .ok (.iload 5, 2) := by decide +kernel
theorem dX2_found_68 : decode cX2_found 68 = .ok (.invokevirtual 104, 3) := by decide +kernel
theorem dX2_found_71 : decode cX2_found 71 = .ok (.areturn, 1) := by decide +kernel
theorem dX2_holderOfField_0 : decode cX2_holderOfField 0 = .ok (.aload_n 1, 1) := by decide +kernel
theorem dX2_holderOfField_1 : decode cX2_holderOfField 1 = .ok (.iconst 0, 1) := by decide +kernel
theorem dX2_holderOfField_2 : decode cX2_holderOfField 2 = .ok (.iload_n 2, 1) := by decide +kernel
theorem dX2_holderOfField_3 : decode cX2_holderOfField 3 = .ok (.invokevirtual 107, 3) := by decide +kernel
theorem dX2_holderOfField_6 : decode cX2_holderOfField 6 = .ok (.ifCond .eq 5, 3) := by decide +kernel
theorem dX2_holderOfField_9 : decode cX2_holderOfField 9 = .ok (.aload_n 1, 1) := by decide +kernel
theorem dX2_holderOfField_10 : decode cX2_holderOfField 10 = .ok (.areturn, 1) := by decide +kernel
theorem dX2_holderOfField_11 : decode cX2_holderOfField 11 = .ok (.iconst 0, 1) := by decide +kernel
theorem dX2_holderOfField_12 : decode cX2_holderOfField 12 = .ok (.istore_n 3, 1) := by decide +kernel
theorem dX2_holderOfField_13 : decode cX2_holderOfField 13 = .ok (.iload_n 3, 1) := by decide +kernel
theorem dX2_holderOfField_14 : decode cX2_holderOfField 14 = .ok (.aload_n 1, 1) := by decide +kernel
theorem dX2_holderOfField_15 : decode cX2_holderOfField 15 = .ok (.getfield 111, 3) := by decide +kernel
theorem dX2_holderOfField_18 : decode cX2_holderOfField 18 = .ok (.if_icmp .ge 39, 3) := by decide +kernel
theorem dX2_holderOfField_21 : decode cX2_holderOfField 21 = .ok (.aload_n 0, 1) := by decide +kernel
theorem dX2_holderOfField_22 : decode cX2_holderOfField 22 = .ok (.aload_n 1, 1) := by decide +kernel
theorem dX2_holderOfField_23 : decode cX2_holderOfField 23 = .ok (.getfield 114, 3) := by decide +kernel
theorem dX2_holderOfField_26 : decode cX2_holderOfField 26 = .ok (.iload_n 3, 1) := by decide +kernel
theorem dX2_holderOfField_27 : decode cX2_holderOfField 27 = .ok (.iaload, 1) := by decide +kernel
theorem dX2_holderOfField_28 : decode cX2_holderOfField 28 = .ok (.invokevirtual 25, 3) := by decide +kernel
theorem dX2_holderOfField_31 : decode cX2_holderOfField 31 = .ok (.astore 4, 2) := by decide +kernel
theorem dX2_holderOfField_33 : decode cX2_holderOfField 33 = .ok (.aload 4, 2) := by decide +kernel
theorem dX2_holderOfField_35 : decode cX2_holderOfField 35 = .ok (.ifnull 16, 3) := by decide +kernel
theorem dX2_holderOfField_38 : decode cX2_holderOfField 38 = .ok (.aload 4, 2) := by decide +kernel
theorem dX2_holderOfField_40 : decode cX2_holderOfField 40 = .ok (.iconst 0, 1) := by decide +kernel
theorem dX2_holderOfField_41 : decode cX2_holderOfField 41 = .ok (.iload_n 2, 1) := by decide +kernel
theorem dX2_holderOfField_42 : decode cX2_holderOfField 42 = .ok (.invokevirtual 107, 3) := by decide +kernel
theorem dX2_holderOfField_45 : decode cX2_holderOfField 45 = .ok (.ifCond .eq 6, 3) := by decide +kernel
theorem dX2_holderOfField_48 : decode cX2_holderOfField 48 = .ok (.aload 4, 2) := by decide +kernel
theorem dX2_holderOfField_50 : decode cX2_holderOfField 50 = .ok (.areturn, 1) := by decide +kernel
theorem dX2_holderOfField_51 : decode cX2_holderOfField 51 = .ok (.iinc 3 1, 3) := by decide +kernel
theorem dX2_holderOfField_54 : decode cX2_holderOfField 54 = .ok (.goto (-41), 3) := by decide +kernel
theorem dX2_holderOfField_57 : decode cX2_holderOfField 57 = .ok (.aconst_null, 1) := by decide +kernel
theorem dX2_holderOfField_58 : decode cX2_holderOfField 58 = .ok (.areturn, 1) := by decide +kernel
theorem dX2_nearestWithMethod_0 : decode cX2_nearestWithMethod 0 = .ok (.aload_n 1, 1) := by decide +kernel
theorem dX2_nearestWithMethod_1 : decode cX2_nearestWithMethod 1 = .ok (.astore_n 3, 1) := by decide +kernel
theorem dX2_nearestWithMethod_2 : decode cX2_nearestWithMethod 2 = .ok (.iconst 0, 1) := by decide +kernel
theorem dX2_nearestWithMethod_3 : decode cX2_nearestWithMethod 3 = .ok (.istore 4, 2) := by decide +kernel
theorem dX2_nearestWithMethod_5 : decode cX2_nearestWithMethod 5 = .ok (.iload 4, 2) := by decide +kernel
theorem dX2_nearestWithMethod_7 : decode cX2_nearestWithMethod 7 = .ok (.bipush 10, 2) := by decide +kernel
theorem dX2_nearestWithMethod_9 : decode cX2_nearestWithMethod 9 = .ok (.if_icmp .ge 33, 3) := by decide +kernel
theorem dX2_nearestWithMethod_12 : decode cX2_nearestWithMethod 12 = .ok (.aload_n 3, 1) := by decide +kernel
theorem dX2_nearestWithMethod_13 : decode cX2_nearestWithMethod 13 = .ok (.ifnull 29, 3) := by decide +kernel
theorem dX2_nearestWithMethod_16 : decode cX2_nearestWithMethod 16 = .ok (.aload_n 3, 1) := by decide +kernel
theorem dX2_nearestWithMethod_17 : decode cX2_nearestWithMethod 17 = .ok (.iconst 1, 1) := by decide +kernel
theorem dX2_nearestWithMethod_18 : decode cX2_nearestWithMethod 18 = .ok (.iload_n 2, 1) := by decide +kernel
theorem dX2_nearestWithMethod_19 : decode cX2_nearestWithMethod 19 = .ok (.invokevirtual 107, 3) := by decide +kernel
theorem dX2_nearestWithMethod_22 : decode cX2_nearestWithMethod 22 = .ok (.ifCond .eq 5, 3) := by decide +kernel
theorem dX2_nearestWithMethod_25 : decode cX2_nearestWithMethod 25 = .ok (.aload_n 3, 1) := by decide +kernel
theorem dX2_nearestWithMethod_26 : decode cX2_nearestWithMethod 26 = .ok (.areturn, 1) := by decide +kernel
theorem dX2_nearestWithMethod_27 : decode cX2_nearestWithMethod 27 = .ok (.aload_n 0, 1) := by decide +kernel
theorem dX2_nearestWithMethod_28 : decode cX2_nearestWithMethod 28 = .ok (.aload_n 3, 1) := by decide +kernel
theorem dX2_nearestWithMethod_29 : decode cX2_nearestWithMethod 29 = .ok (.getfield 54, 3) := by decide +kernel
theorem dX2_nearestWithMethod_32 : decode cX2_nearestWithMethod 32 = .ok (.invokevirtual 25, 3) := by decide +kernel
theorem dX2_nearestWithMethod_35 : decode cX2_nearestWithMethod 35 = .ok (.astore_n 3, 1) := by decide +kernel
theorem dX2_nearestWithMethod_36 : decode cX2_nearestWithMethod 36 = .ok (.iinc 4 1, 3) := by decide +kernel
theorem dX2_nearestWithMethod_39 : decode cX2_nearestWithMethod 39 = .ok (.goto (-34), 3) := by decide +kernel
theorem dX2_nearestWithMethod_42 : decode cX2_nearestWithMethod 42 = .ok (.aconst_null, 1) := by decide +kernel
theorem dX2_nearestWithMethod_43 : decode cX2_nearestWithMethod 43 = .ok (.areturn, 1) := by decide +kernel
theorem dX2_candidatesOf_0 : decode cX2_candidatesOf 0 = .ok (.iconst 0, 1) := by decide +kernel
theorem dX2_candidatesOf_1 : decode cX2_candidatesOf 1 = .ok (.istore_n 3, 1) := by decide +kernel
theorem dX2_candidatesOf_2 : decode cX2_candidatesOf 2 = .ok (.iconst 0, 1) := by decide +kernel
theorem dX2_candidatesOf_3 : decode cX2_candidatesOf 3 = .ok (.istore 4, 2) := by decide +kernel
theorem dX2_candidatesOf_5 : decode cX2_candidatesOf 5 = .ok (.iconst 0, 1) := by decide +kernel
theorem dX2_candidatesOf_6 : decode cX2_candidatesOf 6 = .ok (.istore 5, 2) := by decide +kernel
theorem dX2_candidatesOf_8 : decode cX2_candidatesOf 8 = .ok (.iload 5, 2) := by decide +kernel
theorem dX2_candidatesOf_10 : decode cX2_candidatesOf 10 = .ok (.aload_n 1, 1) := by decide +kernel
theorem dX2_candidatesOf_11 : decode cX2_candidatesOf 11 = .ok (.getfield 111, 3) := by decide +kernel
theorem dX2_candidatesOf_14 : decode cX2_candidatesOf 14 = .ok (.if_icmp .ge 81, 3) := by decide +kernel
theorem dX2_candidatesOf_17 : decode cX2_candidatesOf 17 = .ok (.aload_n 0, 1) := by decide +kernel
theorem dX2_candidatesOf_18 : decode cX2_candidatesOf 18 = .ok (.aload_n 1, 1) := by decide +kernel
theorem dX2_candidatesOf_19 : decode cX2_candidatesOf 19 = .ok (.getfield 114, 3) := by decide +kernel
theorem dX2_candidatesOf_22 : decode cX2_candidatesOf 22 = .ok (.iload 5, 2) := by decide +kernel
theorem dX2_candidatesOf_24 : decode cX2_candidatesOf 24 = .ok (.iaload, 1) := by decide +kernel
theorem dX2_candidatesOf_25 : decode cX2_candidatesOf 25 = .ok (.invokevirtual 25, 3) := by decide +kernel
theorem dX2_candidatesOf_28 : decode cX2_candidatesOf 28 = .ok (.astore 6, 2) := by decide +kernel
theorem dX2_candidatesOf_30 : decode cX2_candidatesOf 30 = .ok (.aload 6, 2) := by decide +kernel
theorem dX2_candidatesOf_32 : decode cX2_candidatesOf 32 = .ok (.ifnull 11, 3) := by decide +kernel
theorem dX2_candidatesOf_35 : decode cX2_candidatesOf 35 = .ok (.aload 6, 2) := by decide +kernel
theorem dX2_candidatesOf_37 : decode cX2_candidatesOf 37 = .ok (.getfield 29, 3) := by decide +kernel
theorem dX2_candidatesOf_40 : decode cX2_candidatesOf 40 = .ok (.ifCond .ne 7, 3) := by decide +kernel
theorem dX2_candidatesOf_43 : decode cX2_candidatesOf 43 = .ok (.aconst_null, 1) := by decide +kernel
theorem dX2_candidatesOf_44 : decode cX2_candidatesOf 44 = .ok (.goto 10, 3) := by decide +kernel
theorem dX2_candidatesOf_47 : decode cX2_candidatesOf 47 = .ok (.aload 6, 2) := by decide +kernel
theorem dX2_candidatesOf_49 : decode cX2_candidatesOf 49 = .ok (.iconst 1, 1) := by decide +kernel
theorem dX2_candidatesOf_50 : decode cX2_candidatesOf 50 = .ok (.iload_n 2, 1) := by decide +kernel
theorem dX2_candidatesOf_51 : decode cX2_candidatesOf 51 = .ok (.invokevirtual 117, 3) := by decide +kernel
theorem dX2_candidatesOf_54 : decode cX2_candidatesOf 54 = .ok (.astore 7, 2) := by decide +kernel
theorem dX2_candidatesOf_56 : decode cX2_candidatesOf 56 = .ok (.aload 7, 2) := by decide +kernel
theorem dX2_candidatesOf_58 : decode cX2_candidatesOf 58 = .ok (.ifnull 31, 3) := by decide +kernel
theorem dX2_candidatesOf_61 : decode cX2_candidatesOf 61 = .ok (.aload 7, 2) := by decide +kernel
theorem dX2_candidatesOf_63 : decode cX2_candidatesOf 63 = .ok (.invokevirtual 121, 3) := by decide +kernel
theorem dX2_candidatesOf_66 : decode cX2_candidatesOf 66 = .ok (.ifCond .eq 23, 3) := by decide +kernel
theorem dX2_candidatesOf_69 : decode cX2_candidatesOf 69 = .ok (.iload_n 3, 1) := by decide +kernel
theorem dX2_candidatesOf_70 : decode cX2_candidatesOf 70 = .ok (.iconst 1, 1) := by decide +kernel
theorem dX2_candidatesOf_71 : decode cX2_candidatesOf 71 = .ok (.aload 6, 2) := by decide +kernel
theorem dX2_candidatesOf_73 : decode cX2_candidatesOf 73 = .ok (.getfield 40, 3) := by decide +kernel
theorem dX2_candidatesOf_76 : decode cX2_candidatesOf 76 = .ok (.ishl, 1) := by decide +kernel
theorem dX2_candidatesOf_77 : decode cX2_candidatesOf 77 = .ok (.ior, 1) := by decide +kernel
theorem dX2_candidatesOf_78 : decode cX2_candidatesOf 78 = .ok (.istore_n 3, 1) := by decide +kernel
theorem dX2_candidatesOf_79 : decode cX2_candidatesOf 79 = .ok (.iload 4, 2) := by decide +kernel
theorem dX2_candidatesOf_81 : decode cX2_candidatesOf 81 = .ok (.aload 6, 2) := by decide +kernel
theorem dX2_candidatesOf_83 : decode cX2_candidatesOf 83 = .ok (.getfield 127, 3) := by decide +kernel
theorem dX2_candidatesOf_86 : decode cX2_candidatesOf 86 = .ok (.ior, 1) := by decide +kernel
theorem dX2_candidatesOf_87 : decode cX2_candidatesOf 87 = .ok (.istore 4, 2) := by decide +kernel
theorem dX2_candidatesOf_89 : decode cX2_candidatesOf 89 = .ok (.iinc 5 1, 3) := by decide +kernel
theorem dX2_candidatesOf_92 : decode cX2_candidatesOf 92 = .ok (.goto (-84), 3) := by decide +kernel
theorem dX2_candidatesOf_95 : decode cX2_candidatesOf 95 = .ok (.iload_n 3, 1) := by decide +kernel
theorem dX2_candidatesOf_96 : decode cX2_candidatesOf 96 = .ok (.iload 4, 2) := by decide +kernel
theorem dX2_candidatesOf_98 : decode cX2_candidatesOf 98 = .ok (.iconst (-1), 1) := by decide +kernel
theorem dX2_candidatesOf_99 : decode cX2_candidatesOf 99 = .ok (.ixor, 1) := by decide +kernel
theorem dX2_candidatesOf_100 : decode cX2_candidatesOf 100 = .ok (.iand, 1) := by decide +kernel
theorem dX2_candidatesOf_101 : decode cX2_candidatesOf 101 = .ok (.ireturn, 1) := by decide +kernel
theorem dX2_onlyConcrete_0 : decode cX2_onlyConcrete 0 = .ok (.aconst_null, 1) := by decide +kernel
theorem dX2_onlyConcrete_1 : decode cX2_onlyConcrete 1 = .ok (.astore_n 3, 1) := by decide +kernel
theorem dX2_onlyConcrete_2 : decode cX2_onlyConcrete 2 = .ok (.iconst 0, 1) := by decide +kernel
theorem dX2_onlyConcrete_3 : decode cX2_onlyConcrete 3 = .ok (.istore 4, 2) := by decide +kernel
theorem dX2_onlyConcrete_5 : decode cX2_onlyConcrete 5 = .ok (.iload 4, 2) := by decide +kernel
theorem dX2_onlyConcrete_7 : decode cX2_onlyConcrete 7 = .ok (.aload_n 0, 1) := by decide +kernel
theorem dX2_onlyConcrete_8 : decode cX2_onlyConcrete 8 = .ok (.getfield 33, 3) := by decide +kernel
theorem dX2_onlyConcrete_11 : decode cX2_onlyConcrete 11 = .ok (.if_icmp .ge 72, 3) := by decide +kernel
theorem dX2_onlyConcrete_14 : decode cX2_onlyConcrete 14 = .ok (.iload_n 1, 1) := by decide +kernel
theorem dX2_onlyConcrete_15 : decode cX2_onlyConcrete 15 = .ok (.i2l, 1) := by decide +kernel
theorem dX2_onlyConcrete_16 : decode cX2_onlyConcrete 16 = .ok (.aload_n 0, 1) := by decide +kernel
theorem dX2_onlyConcrete_17 : decode cX2_onlyConcrete 17 = .ok (.getfield 11, 3) := by decide +kernel
theorem dX2_onlyConcrete_20 : decode cX2_onlyConcrete 20 = .ok (.iload 4, 2) := by decide +kernel
theorem dX2_onlyConcrete_22 : decode cX2_onlyConcrete 22 = .ok (.aaload, 1) := by decide +kernel
theorem dX2_onlyConcrete_23 : decode cX2_onlyConcrete 23 = .ok (.getfield 40, 3) := by decide +kernel
theorem dX2_onlyConcrete_26 : decode cX2_onlyConcrete 26 = .ok (.invokestatic 130, 3) := by decide +kernel
theorem dX2_onlyConcrete_29 : decode cX2_onlyConcrete 29 = .ok (.ifCond .eq 18, 3) := by decide +kernel
theorem dX2_onlyConcrete_32 : decode cX2_onlyConcrete 32 = .ok (.aload_n 0, 1) := by decide +kernel
theorem dX2_onlyConcrete_33 : decode cX2_onlyConcrete 33 = .ok (.getfield 11, 3) := by decide +kernel
theorem dX2_onlyConcrete_36 : decode cX2_onlyConcrete 36 = .ok (.iload 4, 2) := by decide +kernel
theorem dX2_onlyConcrete_38 : decode cX2_onlyConcrete 38 = .ok (.aaload, 1) := by decide +kernel
theorem dX2_onlyConcrete_39 : decode cX2_onlyConcrete 39 = .ok (.iconst 1, 1) := by decide +kernel
theorem dX2_onlyConcrete_40 : decode cX2_onlyConcrete 40 = .ok (.iload_n 2, 1) := by decide +kernel
theorem dX2_onlyConcrete_41 : decode cX2_onlyConcrete 41 = .ok (.invokevirtual 117, 3) := by decide +kernel
theorem dX2_onlyConcrete_44 : decode cX2_onlyConcrete 44 = .ok (.goto 4, 3) := by decide +kernel
theorem dX2_onlyConcrete_47 : decode cX2_onlyConcrete 47 = .ok (.aconst_null, 1) := by decide +kernel
theorem dX2_onlyConcrete_48 : decode cX2_onlyConcrete 48 = .ok (.astore 5, 2) := by decide +kernel
theorem dX2_onlyConcrete_50 : decode cX2_onlyConcrete 50 = .ok (.aload 5, 2) := by decide +kernel
theorem dX2_onlyConcrete_52 : decode cX2_onlyConcrete 52 = .ok (.ifnull 25, 3) := by decide +kernel
theorem dX2_onlyConcrete_55 : decode cX2_onlyConcrete 55 = .ok (.aload 5, 2) := by decide +kernel
theorem dX2_onlyConcrete_57 : decode cX2_onlyConcrete 57 = .ok (.invokevirtual 134, 3) := by decide +kernel
theorem dX2_onlyConcrete_60 : decode cX2_onlyConcrete 60 = .ok (.ifCond .ne 17, 3) := by decide +kernel
theorem dX2_onlyConcrete_63 : decode cX2_onlyConcrete 63 = .ok (.aload_n 3, 1) := by decide +kernel
theorem dX2_onlyConcrete_64 : decode cX2_onlyConcrete 64 = .ok (.ifnull 5, 3) := by decide +kernel
theorem dX2_onlyConcrete_67 : decode cX2_onlyConcrete 67 = .ok (.aconst_null, 1) := by decide +kernel
theorem dX2_onlyConcrete_68 : decode cX2_onlyConcrete 68 = .ok (.areturn, 1) := by decide +kernel
theorem dX2_onlyConcrete_69 : decode cX2_onlyConcrete 69 = .ok (.aload_n 0, 1) := by decide +kernel
theorem dX2_onlyConcrete_70 : decode cX2_onlyConcrete 70 = .ok (.getfield 11, 3) := by decide +kernel
theorem dX2_onlyConcrete_73 : decode cX2_onlyConcrete 73 = .ok (.iload 4, 2) := by decide +kernel
theorem dX2_onlyConcrete_75 : decode cX2_onlyConcrete 75 = .ok (.aaload, 1) := by decide +kernel
theorem dX2_onlyConcrete_76 : decode cX2_onlyConcrete 76 = .ok (.astore_n 3, 1) := by decide +kernel
theorem dX2_onlyConcrete_77 : decode cX2_onlyConcrete 77 = .ok (.iinc 4 1, 3) := by decide +kernel
theorem dX2_onlyConcrete_80 : decode cX2_onlyConcrete 80 = .ok (.goto (-75), 3) := by decide +kernel
theorem dX2_onlyConcrete_83 : decode cX2_onlyConcrete 83 = .ok (.aload_n 3, 1) := by decide +kernel
theorem dX2_onlyConcrete_84 : decode cX2_onlyConcrete 84 = .ok (.areturn, 1) := by decide +kernel
theorem dX2_firstOf_0 : decode cX2_firstOf 0 = .ok (.iconst 0, 1) := by decide +kernel
theorem dX2_firstOf_1 : decode cX2_firstOf 1 = .ok (.istore_n 2, 1) := by decide +kernel
theorem dX2_firstOf_2 : decode cX2_firstOf 2 = .ok (.iload_n 2, 1) := by decide +kernel
theorem dX2_firstOf_3 : decode cX2_firstOf 3 = .ok (.aload_n 0, 1) := by decide +kernel
theorem dX2_firstOf_4 : decode cX2_firstOf 4 = .ok (.getfield 33, 3) := by decide +kernel
theorem dX2_firstOf_7 : decode cX2_firstOf 7 = .ok (.if_icmp .ge 33, 3) := by decide +kernel
theorem dX2_firstOf_10 : decode cX2_firstOf 10 = .ok (.iload_n 1, 1) := by decide +kernel
theorem dX2_firstOf_11 : decode cX2_firstOf 11 = .ok (.i2l, 1) := by decide +kernel
theorem dX2_firstOf_12 : decode cX2_firstOf 12 = .ok (.aload_n 0, 1) := by decide +kernel
theorem dX2_firstOf_13 : decode cX2_firstOf 13 = .ok (.getfield 11, 3) := by decide +kernel
theorem dX2_firstOf_16 : decode cX2_firstOf 16 = .ok (.iload_n 2, 1) := by decide +kernel
theorem dX2_firstOf_17 : decode cX2_firstOf 17 = .ok (.aaload, 1) := by decide +kernel
theorem dX2_firstOf_18 : decode cX2_firstOf 18 = .ok (.getfield 40, 3) := by decide +kernel
theorem dX2_firstOf_21 : decode cX2_firstOf 21 = .ok (.invokestatic 130, 3) := by decide +kernel
theorem dX2_firstOf_24 : decode cX2_firstOf 24 = .ok (.ifCond .eq 10, 3) := by decide +kernel
theorem dX2_firstOf_27 : decode cX2_firstOf 27 = .ok (.aload_n 0, 1) := by decide +kernel
theorem dX2_firstOf_28 : decode cX2_firstOf 28 = .ok (.getfield 11, 3) := by decide +kernel
theorem dX2_firstOf_31 : decode cX2_firstOf 31 = .ok (.iload_n 2, 1) := by decide +kernel
theorem dX2_firstOf_32 : decode cX2_firstOf 32 = .ok (.aaload, 1) := by decide +kernel
theorem dX2_firstOf_33 : decode cX2_firstOf 33 = .ok (.areturn, 1) := by decide +kernel
theorem dX2_firstOf_34 : decode cX2_firstOf 34 = .ok (.iinc 2 1, 3) := by decide +kernel
theorem dX2_firstOf_37 : decode cX2_firstOf 37 = .ok (.goto (-35), 3) := by decide +kernel
theorem dX2_firstOf_40 : decode cX2_firstOf 40 = .ok (.aconst_null, 1) := by decide +kernel
theorem dX2_firstOf_41 : decode cX2_firstOf 41 = .ok (.areturn, 1) := by decide +kernel
theorem dX2_selected_0 : decode cX2_selected 0 = .ok (.aload_n 1, 1) := by decide +kernel
theorem dX2_selected_1 : decode cX2_selected 1 = .ok (.ifnonnull 7, 3) := by decide +kernel
theorem dX2_selected_4 : decode cX2_selected 4 = .ok (.aconst_null, 1) := by decide +kernel
theorem dX2_selected_5 : decode cX2_selected 5 = .ok (.goto 9, 3) := by decide +kernel
theorem dX2_selected_8 : decode cX2_selected 8 = .ok (.aload_n 1, 1) := by decide +kernel
theorem dX2_selected_9 : decode cX2_selected 9 = .ok (.iconst 1, 1) := by decide +kernel
theorem dX2_selected_10 : decode cX2_selected 10 = .ok (.iload_n 2, 1) := by decide +kernel
theorem dX2_selected_11 : decode cX2_selected 11 = .ok (.invokevirtual 117, 3) := by decide +kernel
theorem dX2_selected_14 : decode cX2_selected 14 = .ok (.astore 4, 2) := by decide +kernel
theorem dX2_selected_16 : decode cX2_selected 16 = .ok (.aload 4, 2) := by decide +kernel
theorem dX2_selected_18 : decode cX2_selected 18 = .ok (.ifnull 7, 3) := by decide +kernel
theorem dX2_selected_21 : decode cX2_selected 21 = .ok (.aload_n 3, 1) := by decide +kernel
theorem dX2_selected_22 : decode cX2_selected 22 = .ok (.ifnonnull 5, 3) := by decide +kernel
theorem dX2_selected_25 : decode cX2_selected 25 = .ok (.aconst_null, 1) := by decide +kernel
theorem dX2_selected_26 : decode cX2_selected 26 = .ok (.areturn, 1) := by decide +kernel
theorem dX2_selected_27 : decode cX2_selected 27 = .ok (.aload 4, 2) := by decide +kernel
theorem dX2_selected_29 : decode cX2_selected 29 = .ok (.getfield 137, 3) := by decide +kernel
theorem dX2_selected_32 : decode cX2_selected 32 = .ok (.ifCond .ne 5, 3) := by decide +kernel
theorem dX2_selected_35 : decode cX2_selected 35 = .ok (.aload_n 1, 1) := by decide +kernel
theorem dX2_selected_36 : decode cX2_selected 36 = .ok (.areturn, 1) := by decide +kernel
theorem dX2_selected_37 : decode cX2_selected 37 = .ok (.aload_n 3, 1) := by decide +kernel
theorem dX2_selected_38 : decode cX2_selected 38 = .ok (.astore 5, 2) := by decide +kernel
theorem dX2_selected_40 : decode cX2_selected 40 = .ok (.iconst 0, 1) := by decide +kernel
theorem dX2_selected_41 : decode cX2_selected 41 = .ok (.istore 6, 2) := by decide +kernel
theorem dX2_selected_43 : decode cX2_selected 43 = .ok (.iload 6, 2) := by decide +kernel
theorem dX2_selected_45 : decode cX2_selected 45 = .ok (.bipush 10, 2) := by decide +kernel
theorem dX2_selected_47 : decode cX2_selected 47 = .ok (.if_icmp .ge 61, 3) := by decide +kernel
theorem dX2_selected_50 : decode cX2_selected 50 = .ok (.aload 5, 2) := by decide +kernel
theorem dX2_selected_52 : decode cX2_selected 52 = .ok (.ifnull 56, 3) := by decide +kernel
theorem dX2_selected_55 : decode cX2_selected 55 = .ok (.aload 5, 2) := by decide +kernel
theorem dX2_selected_57 : decode cX2_selected 57 = .ok (.iconst 1, 1) := by decide +kernel
theorem dX2_selected_58 : decode cX2_selected 58 = .ok (.iload_n 2, 1) := by decide +kernel
theorem dX2_selected_59 : decode cX2_selected 59 = .ok (.invokevirtual 117, 3) := by decide +kernel
theorem dX2_selected_62 : decode cX2_selected 62 = .ok (.astore 7, 2) := by decide +kernel
theorem dX2_selected_64 : decode cX2_selected 64 = .ok (.aload 7, 2) := by decide +kernel
theorem dX2_selected_66 : decode cX2_selected 66 = .ok (.ifnull 25, 3) := by decide +kernel
theorem dX2_selected_69 : decode cX2_selected 69 = .ok (.aload 7, 2) := by decide +kernel
theorem dX2_selected_71 : decode cX2_selected 71 = .ok (.invokevirtual 121, 3) := by decide +kernel
theorem dX2_selected_74 : decode cX2_selected 74 = .ok (.ifCond .eq 17, 3) := by decide +kernel
theorem dX2_selected_77 : decode cX2_selected 77 = .ok (.aload 5, 2) := by decide +kernel
theorem dX2_selected_79 : decode cX2_selected 79 = .ok (.aload_n 1, 1) := by decide +kernel
theorem dX2_selected_80 : decode cX2_selected 80 = .ok (.aload 4, 2) := by decide +kernel
theorem dX2_selected_82 : decode cX2_selected 82 = .ok (.invokestatic 140, 3) := by decide +kernel
theorem dX2_selected_85 : decode cX2_selected 85 = .ok (.ifCond .eq 6, 3) := by decide +kernel
theorem dX2_selected_88 : decode cX2_selected 88 = .ok (.aload 5, 2) := by decide +kernel
theorem dX2_selected_90 : decode cX2_selected 90 = .ok (.areturn, 1) := by decide +kernel
theorem dX2_selected_91 : decode cX2_selected 91 = .ok (.aload_n 0, 1) := by decide +kernel
theorem dX2_selected_92 : decode cX2_selected 92 = .ok (.aload 5, 2) := by decide +kernel
theorem dX2_selected_94 : decode cX2_selected 94 = .ok (.getfield 54, 3) := by decide +kernel
theorem dX2_selected_97 : decode cX2_selected 97 = .ok (.invokevirtual 25, 3) := by decide +kernel
theorem dX2_selected_100 : decode cX2_selected 100 = .ok (.astore 5, 2) := by decide +kernel
theorem dX2_selected_102 : decode cX2_selected 102 = .ok (.iinc 6 1, 3) := by decide +kernel
theorem dX2_selected_105 : decode cX2_selected 105 = .ok (.goto (-62), 3) := by decide +kernel
theorem dX2_selected_108 : decode cX2_selected 108 = .ok (.aload_n 0, 1) := by decide +kernel
theorem dX2_selected_109 : decode cX2_selected 109 = .ok (.aload_n 0, 1) := by decide +kernel
theorem dX2_selected_110 : decode cX2_selected 110 = .ok (.aload_n 3, 1) := by decide +kernel
theorem dX2_selected_111 : decode cX2_selected 111 = .ok (.iload_n 2, 1) := by decide +kernel
theorem dX2_selected_112 : decode cX2_selected 112 = .ok (.invokevirtual 96, 3) := by decide +kernel
theorem dX2_selected_115 : decode cX2_selected 115 = .ok (.iload_n 2, 1) := by decide +kernel
theorem dX2_selected_116 : decode cX2_selected 116 = .ok (.invokevirtual 100, 3) := by decide +kernel
theorem dX2_selected_119 : decode cX2_selected 119 = .ok (.areturn, 1) := by decide +kernel
theorem dX2_standsFor_0 : decode cX2_standsFor 0 = .ok (.aload_n 0, 1) := by decide +kernel
theorem dX2_standsFor_1 : decode cX2_standsFor 1 = .ok (.getfield 40, 3) := by decide +kernel
theorem dX2_standsFor_4 : decode cX2_standsFor 4 = .ok (.aload_n 1, 1) := by decide +kernel
theorem dX2_standsFor_5 : decode cX2_standsFor 5 = .ok (.getfield 40, 3) := by decide +kernel
theorem dX2_standsFor_8 : decode cX2_standsFor 8 = .ok (.if_icmp .eq 22, 3) := by decide +kernel
theorem dX2_standsFor_11 : decode cX2_standsFor 11 = .ok (.aload_n 2, 1) := by decide +kernel
theorem dX2_standsFor_12 : decode cX2_standsFor 12 = .ok (.getfield 137, 3) := by decide +kernel
theorem dX2_standsFor_15 : decode cX2_standsFor 15 = .ok (.iconst 1, 1) := by decide +kernel
theorem dX2_standsFor_16 : decode cX2_standsFor 16 = .ok (.if_icmp .gt 14, 3) := by decide +kernel
theorem dX2_standsFor_19 : decode cX2_standsFor 19 = .ok (.aload_n 0, 1) := by decide +kernel
theorem dX2_standsFor_20 : decode cX2_standsFor 20 = .ok (.getfield 144, 3) := by decide +kernel
theorem dX2_standsFor_23 : decode cX2_standsFor 23 = .ok (.aload_n 1, 1) := by decide +kernel
theorem dX2_standsFor_24 : decode cX2_standsFor 24 = .ok (.getfield 144, 3) := by decide +kernel
theorem dX2_standsFor_27 : decode cX2_standsFor 27 = .ok (.if_icmp .ne 7, 3) := by decide +kernel
theorem dX2_standsFor_30 : decode cX2_standsFor 30 = .ok (.iconst 1, 1) := by decide +kernel
theorem dX2_standsFor_31 : decode cX2_standsFor 31 = .ok (.goto 4, 3) := by decide +kernel
theorem dX2_standsFor_34 : decode cX2_standsFor 34 = .ok (.iconst 0, 1) := by decide +kernel
theorem dX2_standsFor_35 : decode cX2_standsFor 35 = .ok (.ireturn, 1) := by decide +kernel
