theorem dX0_init_0 : decode cX0_init 0 = .ok (.aload_n 0, 1) := by decide +kernel
theorem dX0_init_1 : decode cX0_init 1 = .ok (.invokespecial 3, 3) := by decide +kernel
theorem dX0_init_4 : decode cX0_init 4 = .ok (.aload_n 0, 1) := by decide +kernel
theorem dX0_init_5 : decode cX0_init 5 = .ok (.bipush 20, 2) := by decide +kernel
theorem dX0_init_7 : decode cX0_init 7 = .ok (.anewarray 9, 3) := by decide +kernel
theorem dX0_init_10 : decode cX0_init 10 = .ok (.putfield 11, 3) := by decide +kernel
theorem dX0_init_13 : decode cX0_init 13 = .ok (.iconst 0, 1) := by decide +kernel
theorem dX0_init_14 : decode cX0_init 14 = .ok (.istore_n 1, 1) := by decide +kernel
theorem dX0_init_15 : decode cX0_init 15 = .ok (.iload_n 1, 1) := by decide +kernel
theorem dX0_init_16 : decode cX0_init 16 = .ok (.bipush 20, 2) := by decide +kernel
theorem dX0_init_18 : decode cX0_init 18 = .ok (.if_icmp .ge 22, 3) := by decide +kernel
theorem dX0_init_21 : decode cX0_init 21 = .ok (.aload_n 0, 1) := by decide +kernel
theorem dX0_init_22 : decode cX0_init 22 = .ok (.getfield 11, 3) := by decide +kernel
theorem dX0_init_25 : decode cX0_init 25 = .ok (.iload_n 1, 1) := by decide +kernel
theorem dX0_init_26 : decode cX0_init 26 = .ok (.new 9, 3) := by decide +kernel
theorem dX0_init_29 : decode cX0_init 29 = .ok (.dup, 1) := by decide +kernel
theorem dX0_init_30 : decode cX0_init 30 = .ok (.invokespecial 17, 3) := by decide +kernel
theorem dX0_init_33 : decode cX0_init 33 = .ok (.aastore, 1) := by decide +kernel
theorem dX0_init_34 : decode cX0_init 34 = .ok (.iinc 1 1, 3) := by decide +kernel
theorem dX0_init_37 : decode cX0_init 37 = .ok (.goto (-22), 3) := by decide +kernel
theorem dX0_init_40 : decode cX0_init 40 = .ok (.return_, 1) := by decide +kernel
theorem dX0_begin_0 : decode cX0_begin 0 = .ok (.aload_n 0, 1) := by decide +kernel
theorem dX0_begin_1 : decode cX0_begin 1 = .ok (.iload_n 1, 1) := by decide +kernel
theorem dX0_begin_2 : decode cX0_begin 2 = .ok (.putfield 18, 3) := by decide +kernel
theorem dX0_begin_5 : decode cX0_begin 5 = .ok (.aload_n 0, 1) := by decide +kernel
theorem dX0_begin_6 : decode cX0_begin 6 = .ok (.iload_n 2, 1) := by decide +kernel
theorem dX0_begin_7 : decode cX0_begin 7 = .ok (.putfield 22, 3) := by decide +kernel
theorem dX0_begin_10 : decode cX0_begin 10 = .ok (.aload_n 0, 1) := by decide +kernel
theorem dX0_begin_11 : decode cX0_begin 11 = .ok (.iload_n 3, 1) := by decide +kernel
theorem dX0_begin_12 : decode cX0_begin 12 = .ok (.putfield 25, 3) := by decide +kernel
theorem dX0_begin_15 : decode cX0_begin 15 = .ok (.aload_n 0, 1) := by decide +kernel
theorem dX0_begin_16 : decode cX0_begin 16 = .ok (.iconst 0, 1) := by decide +kernel
theorem dX0_begin_17 : decode cX0_begin 17 = .ok (.putfield 28, 3) := by decide +kernel
theorem dX0_begin_20 : decode cX0_begin 20 = .ok (.return_, 1) := by decide +kernel
theorem dX0_mayTouch_0 : decode cX0_mayTouch 0 = .ok (.aload_n 3, 1) := by decide +kernel
theorem dX0_mayTouch_1 : decode cX0_mayTouch 1 = .ok (.getfield 31, 3) := by decide +kernel
theorem dX0_mayTouch_4 : decode cX0_mayTouch 4 = .ok (.iconst 3, 1) := by decide +kernel
theorem dX0_mayTouch_5 : decode cX0_mayTouch 5 = .ok (.if_icmp .eq 10, 3) := by decide +kernel
theorem dX0_mayTouch_8 : decode cX0_mayTouch 8 = .ok (.aload_n 3, 1) := by decide +kernel
theorem dX0_mayTouch_9 : decode cX0_mayTouch 9 = .ok (.getfield 31, 3) := by decide +kernel
theorem dX0_mayTouch_12 : decode cX0_mayTouch 12 = .ok (.ifCond .ne 17, 3) := by decide +kernel
theorem dX0_mayTouch_15 : decode cX0_mayTouch 15 = .ok (.aload_n 3, 1) := by decide +kernel
theorem dX0_mayTouch_16 : decode cX0_mayTouch 16 = .ok (.getfield 31, 3) := by decide +kernel
theorem dX0_mayTouch_19 : decode cX0_mayTouch 19 = .ok (.iconst 3, 1) := by decide +kernel
theorem dX0_mayTouch_20 : decode cX0_mayTouch 20 = .ok (.if_icmp .ne 7, 3) := by decide +kernel
theorem dX0_mayTouch_23 : decode cX0_mayTouch 23 = .ok (.iconst 1, 1) := by decide +kernel
theorem dX0_mayTouch_24 : decode cX0_mayTouch 24 = .ok (.goto 4, 3) := by decide +kernel
theorem dX0_mayTouch_27 : decode cX0_mayTouch 27 = .ok (.iconst 0, 1) := by decide +kernel
theorem dX0_mayTouch_28 : decode cX0_mayTouch 28 = .ok (.ireturn, 1) := by decide +kernel
theorem dX0_mayTouch_29 : decode cX0_mayTouch 29 = .ok (.aload_n 2, 1) := by decide +kernel
theorem dX0_mayTouch_30 : decode cX0_mayTouch 30 = .ok (.getfield 36, 3) := by decide +kernel
theorem dX0_mayTouch_33 : decode cX0_mayTouch 33 = .ok (.aload_n 0, 1) := by decide +kernel
theorem dX0_mayTouch_34 : decode cX0_mayTouch 34 = .ok (.getfield 22, 3) := by decide +kernel
theorem dX0_mayTouch_37 : decode cX0_mayTouch 37 = .ok (.if_icmp .ne 5, 3) := by decide +kernel
theorem dX0_mayTouch_40 : decode cX0_mayTouch 40 = .ok (.iconst 1, 1) := by decide +kernel
theorem dX0_mayTouch_41 : decode cX0_mayTouch 41 = .ok (.ireturn, 1) := by decide +kernel
theorem dX0_mayTouch_42 : decode cX0_mayTouch 42 = .ok (.aload_n 3, 1) := by decide +kernel
theorem dX0_mayTouch_43 : decode cX0_mayTouch 43 = .ok (.getfield 31, 3) := by decide +kernel
theorem dX0_mayTouch_46 : decode cX0_mayTouch 46 = .ok (.iconst 2, 1) := by decide +kernel
theorem dX0_mayTouch_47 : decode cX0_mayTouch 47 = .ok (.if_icmp .ne 14, 3) := by decide +kernel
theorem dX0_mayTouch_50 : decode cX0_mayTouch 50 = .ok (.aload_n 1, 1) := by decide +kernel
theorem dX0_mayTouch_51 : decode cX0_mayTouch 51 = .ok (.aload_n 0, 1) := by decide +kernel
theorem dX0_mayTouch_52 : decode cX0_mayTouch 52 = .ok (.getfield 25, 3) := by decide +kernel
theorem dX0_mayTouch_55 : decode cX0_mayTouch 55 = .ok (.invokevirtual 39, 3) := by decide +kernel
theorem dX0_mayTouch_58 : decode cX0_mayTouch 58 = .ok (.goto 4, 3) := by decide +kernel
theorem dX0_mayTouch_61 : decode cX0_mayTouch 61 = .ok (.aconst_null, 1) := by decide +kernel
theorem dX0_mayTouch_62 : decode cX0_mayTouch 62 = .ok (.astore 4, 2) := by decide +kernel
theorem dX0_mayTouch_64 : decode cX0_mayTouch 64 = .ok (.aload 4, 2) := by decide +kernel
theorem dX0_mayTouch_66 : decode cX0_mayTouch 66 = .ok (.ifnull 31, 3) := by decide +kernel
theorem dX0_mayTouch_69 : decode cX0_mayTouch 69 = .ok (.aload 4, 2) := by decide +kernel
theorem dX0_mayTouch_71 : decode cX0_mayTouch 71 = .ok (.getfield 45, 3) := by decide +kernel
theorem dX0_mayTouch_74 : decode cX0_mayTouch 74 = .ok (.aload_n 2, 1) := by decide +kernel
theorem dX0_mayTouch_75 : decode cX0_mayTouch 75 = .ok (.getfield 45, 3) := by decide +kernel
theorem dX0_mayTouch_78 : decode cX0_mayTouch 78 = .ok (.if_icmp .eq 15, 3) := by decide +kernel
theorem dX0_mayTouch_81 : decode cX0_mayTouch 81 = .ok (.aload 4, 2) := by decide +kernel
theorem dX0_mayTouch_83 : decode cX0_mayTouch 83 = .ok (.aload_n 2, 1) := by decide +kernel
theorem dX0_mayTouch_84 : decode cX0_mayTouch 84 = .ok (.getfield 45, 3) := by decide +kernel
theorem dX0_mayTouch_87 : decode cX0_mayTouch 87 = .ok (.invokevirtual 48, 3) := by decide +kernel
theorem dX0_mayTouch_90 : decode cX0_mayTouch 90 = .ok (.ifCond .eq 7, 3) := by decide +kernel
theorem dX0_mayTouch_93 : decode cX0_mayTouch 93 = .ok (.iconst 1, 1) := by decide +kernel
theorem dX0_mayTouch_94 : decode cX0_mayTouch 94 = .ok (.goto 4, 3) := by decide +kernel
theorem dX0_mayTouch_97 : decode cX0_mayTouch 97 = .ok (.iconst 0, 1) := by decide +kernel
theorem dX0_mayTouch_98 : decode cX0_mayTouch 98 = .ok (.ireturn, 1) := by decide +kernel
theorem dX0_meeting_0 : decode cX0_meeting 0 = .ok (.aload_n 1, 1) := by decide +kernel
theorem dX0_meeting_1 : decode cX0_meeting 1 = .ok (.aload_n 2, 1) := by decide +kernel
theorem dX0_meeting_2 : decode cX0_meeting 2 = .ok (.invokevirtual 52, 3) := by decide +kernel
theorem dX0_meeting_5 : decode cX0_meeting 5 = .ok (.astore_n 3, 1) := by decide +kernel
theorem dX0_meeting_6 : decode cX0_meeting 6 = .ok (.aload_n 1, 1) := by decide +kernel
theorem dX0_meeting_7 : decode cX0_meeting 7 = .ok (.getfield 56, 3) := by decide +kernel
theorem dX0_meeting_10 : decode cX0_meeting 10 = .ok (.iconst (-1), 1) := by decide +kernel
theorem dX0_meeting_11 : decode cX0_meeting 11 = .ok (.if_icmp .eq 33, 3) := by decide +kernel
theorem dX0_meeting_14 : decode cX0_meeting 14 = .ok (.aload_n 2, 1) := by decide +kernel
theorem dX0_meeting_15 : decode cX0_meeting 15 = .ok (.getfield 59, 3) := by decide +kernel
theorem dX0_meeting_18 : decode cX0_meeting 18 = .ok (.aload_n 0, 1) := by decide +kernel
theorem dX0_meeting_19 : decode cX0_meeting 19 = .ok (.getfield 18, 3) := by decide +kernel
theorem dX0_meeting_22 : decode cX0_meeting 22 = .ok (.if_icmp .eq 22, 3) := by decide +kernel
theorem dX0_meeting_25 : decode cX0_meeting 25 = .ok (.aload_n 1, 1) := by decide +kernel
theorem dX0_meeting_26 : decode cX0_meeting 26 = .ok (.aload_n 3, 1) := by decide +kernel
theorem dX0_meeting_27 : decode cX0_meeting 27 = .ok (.invokevirtual 62, 3) := by decide +kernel
theorem dX0_meeting_30 : decode cX0_meeting 30 = .ok (.aload_n 1, 1) := by decide +kernel
theorem dX0_meeting_31 : decode cX0_meeting 31 = .ok (.getfield 56, 3) := by decide +kernel
theorem dX0_meeting_34 : decode cX0_meeting 34 = .ok (.if_icmp .ne 7, 3) := by decide +kernel
theorem dX0_meeting_37 : decode cX0_meeting 37 = .ok (.iconst 0, 1) := by decide +kernel
theorem dX0_meeting_38 : decode cX0_meeting 38 = .ok (.goto 5, 3) := by decide +kernel
theorem dX0_meeting_41 : decode cX0_meeting 41 = .ok (.bipush 9, 2) := by decide +kernel
theorem dX0_meeting_43 : decode cX0_meeting 43 = .ok (.ireturn, 1) := by decide +kernel
theorem dX0_meeting_44 : decode cX0_meeting 44 = .ok (.aload_n 1, 1) := by decide +kernel
theorem dX0_meeting_45 : decode cX0_meeting 45 = .ok (.aload_n 2, 1) := by decide +kernel
theorem dX0_meeting_46 : decode cX0_meeting 46 = .ok (.aload_n 0, 1) := by decide +kernel
theorem dX0_meeting_47 : decode cX0_meeting 47 = .ok (.aload_n 3, 1) := by decide +kernel
theorem dX0_meeting_48 : decode cX0_meeting 48 = .ok (.invokevirtual 66, 3) := by decide +kernel
theorem dX0_meeting_51 : decode cX0_meeting 51 = .ok (.istore 4, 2) := by decide +kernel
theorem dX0_meeting_53 : decode cX0_meeting 53 = .ok (.iload 4, 2) := by decide +kernel
theorem dX0_meeting_55 : decode cX0_meeting 55 = .ok (.ifCond .ne 10, 3) := by decide +kernel
theorem dX0_meeting_58 : decode cX0_meeting 58 = .ok (.aload_n 1, 1) := by decide +kernel
theorem dX0_meeting_59 : decode cX0_meeting 59 = .ok (.invokevirtual 70, 3) := by decide +kernel
theorem dX0_meeting_62 : decode cX0_meeting 62 = .ok (.ifCond .ne 6, 3) := by decide +kernel
theorem dX0_meeting_65 : decode cX0_meeting 65 = .ok (.iload 4, 2) := by decide +kernel
theorem dX0_meeting_67 : decode cX0_meeting 67 = .ok (.ireturn, 1) := by decide +kernel
theorem dX0_meeting_68 : decode cX0_meeting 68 = .ok (.aload_n 1, 1) := by decide +kernel
theorem dX0_meeting_69 : decode cX0_meeting 69 = .ok (.aload_n 2, 1) := by decide +kernel
theorem dX0_meeting_70 : decode cX0_meeting 70 = .ok (.aload_n 3, 1) := by decide +kernel
theorem dX0_meeting_71 : decode cX0_meeting 71 = .ok (.invokevirtual 74, 3) := by decide +kernel
theorem dX0_meeting_74 : decode cX0_meeting 74 = .ok (.astore 5, 2) := by decide +kernel
theorem dX0_meeting_76 : decode cX0_meeting 76 = .ok (.aload_n 1, 1) := by decide +kernel
theorem dX0_meeting_77 : decode cX0_meeting 77 = .ok (.aload_n 2, 1) := by decide +kernel
theorem dX0_meeting_78 : decode cX0_meeting 78 = .ok (.aload 5, 2) := by decide +kernel
theorem dX0_meeting_80 : decode cX0_meeting 80 = .ok (.invokevirtual 78, 3) := by decide +kernel
theorem dX0_meeting_83 : decode cX0_meeting 83 = .ok (.istore 4, 2) := by decide +kernel
theorem dX0_meeting_85 : decode cX0_meeting 85 = .ok (.iload 4, 2) := by decide +kernel
theorem dX0_meeting_87 : decode cX0_meeting 87 = .ok (.ifCond .ne 20, 3) := by decide +kernel
theorem dX0_meeting_90 : decode cX0_meeting 90 = .ok (.aload 5, 2) := by decide +kernel
theorem dX0_meeting_92 : decode cX0_meeting 92 = .ok (.invokestatic 82, 3) := by decide +kernel
theorem dX0_meeting_95 : decode cX0_meeting 95 = .ok (.aload_n 1, 1) := by decide +kernel
theorem dX0_meeting_96 : decode cX0_meeting 96 = .ok (.getfield 85, 3) := by decide +kernel
theorem dX0_meeting_99 : decode cX0_meeting 99 = .ok (.if_icmp .eq 8, 3) := by decide +kernel
theorem dX0_meeting_102 : decode cX0_meeting 102 = .ok (.bipush 8, 2) := by decide +kernel
theorem dX0_meeting_104 : decode cX0_meeting 104 = .ok (.goto 5, 3) := by decide +kernel
theorem dX0_meeting_107 : decode cX0_meeting 107 = .ok (.iload 4, 2) := by decide +kernel
theorem dX0_meeting_109 : decode cX0_meeting 109 = .ok (.ireturn, 1) := by decide +kernel
theorem dX0_howManyMeet_0 : decode cX0_howManyMeet 0 = .ok (.iconst 0, 1) := by decide +kernel
theorem dX0_howManyMeet_1 : decode cX0_howManyMeet 1 = .ok (.istore_n 3, 1) := by decide +kernel
theorem dX0_howManyMeet_2 : decode cX0_howManyMeet 2 = .ok (.iconst 0, 1) := by decide +kernel
theorem dX0_howManyMeet_3 : decode cX0_howManyMeet 3 = .ok (.istore 4, 2) := by decide +kernel
theorem dX0_howManyMeet_5 : decode cX0_howManyMeet 5 = .ok (.iload 4, 2) := by decide +kernel
theorem dX0_howManyMeet_7 : decode cX0_howManyMeet 7 = .ok (.aload_n 0, 1) := by decide +kernel
theorem dX0_howManyMeet_8 : decode cX0_howManyMeet 8 = .ok (.getfield 28, 3) := by decide +kernel
theorem dX0_howManyMeet_11 : decode cX0_howManyMeet 11 = .ok (.if_icmp .ge 28, 3) := by decide +kernel
theorem dX0_howManyMeet_14 : decode cX0_howManyMeet 14 = .ok (.aload_n 0, 1) := by decide +kernel
theorem dX0_howManyMeet_15 : decode cX0_howManyMeet 15 = .ok (.aload_n 0, 1) := by decide +kernel
theorem dX0_howManyMeet_16 : decode cX0_howManyMeet 16 = .ok (.getfield 11, 3) := by decide +kernel
theorem dX0_howManyMeet_19 : decode cX0_howManyMeet 19 = .ok (.iload 4, 2) := by decide +kernel
theorem dX0_howManyMeet_21 : decode cX0_howManyMeet 21 = .ok (.aaload, 1) := by decide +kernel
theorem dX0_howManyMeet_22 : decode cX0_howManyMeet 22 = .ok (.aload_n 1, 1) := by decide +kernel
theorem dX0_howManyMeet_23 : decode cX0_howManyMeet 23 = .ok (.invokevirtual 88, 3) := by decide +kernel
theorem dX0_howManyMeet_26 : decode cX0_howManyMeet 26 = .ok (.iload_n 2, 1) := by decide +kernel
theorem dX0_howManyMeet_27 : decode cX0_howManyMeet 27 = .ok (.if_icmp .ne 6, 3) := by decide +kernel
theorem dX0_howManyMeet_30 : decode cX0_howManyMeet 30 = .ok (.iinc 3 1, 3) := by decide +kernel
theorem dX0_howManyMeet_33 : decode cX0_howManyMeet 33 = .ok (.iinc 4 1, 3) := by decide +kernel
theorem dX0_howManyMeet_36 : decode cX0_howManyMeet 36 = .ok (.goto (-31), 3) := by decide +kernel
theorem dX0_howManyMeet_39 : decode cX0_howManyMeet 39 = .ok (.iload_n 3, 1) := by decide +kernel
theorem dX0_howManyMeet_40 : decode cX0_howManyMeet 40 = .ok (.ireturn, 1) := by decide +kernel
