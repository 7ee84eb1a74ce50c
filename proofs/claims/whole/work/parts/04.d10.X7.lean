theorem dX7_init_0 : decode cX7_init 0 = .ok (.aload_n 0, 1) := by decide +kernel
theorem dX7_init_1 : decode cX7_init 1 = .ok (.invokespecial 3, 3) := by decide +kernel
theorem dX7_init_4 : decode cX7_init 4 = .ok (.aload_n 0, 1) := by decide +kernel
theorem dX7_init_5 : decode cX7_init 5 = .ok (.bipush 8, 2) := by decide +kernel
theorem dX7_init_7 : decode cX7_init 7 = .ok (.anewarray 9, 3) := by decide +kernel
theorem dX7_init_10 : decode cX7_init 10 = .ok (.putfield 11, 3) := by decide +kernel
theorem dX7_init_13 : decode cX7_init 13 = .ok (.aload_n 0, 1) := by decide +kernel
theorem dX7_init_14 : decode cX7_init 14 = .ok (.bipush 12, 2) := by decide +kernel
theorem dX7_init_16 : decode cX7_init 16 = .ok (.anewarray 15, 3) := by decide +kernel
theorem dX7_init_19 : decode cX7_init 19 = .ok (.putfield 17, 3) := by decide +kernel
theorem dX7_init_22 : decode cX7_init 22 = .ok (.aload_n 0, 1) := by decide +kernel
theorem dX7_init_23 : decode cX7_init 23 = .ok (.new 21, 3) := by decide +kernel
theorem dX7_init_26 : decode cX7_init 26 = .ok (.dup, 1) := by decide +kernel
theorem dX7_init_27 : decode cX7_init 27 = .ok (.invokespecial 23, 3) := by decide +kernel
theorem dX7_init_30 : decode cX7_init 30 = .ok (.putfield 24, 3) := by decide +kernel
theorem dX7_init_33 : decode cX7_init 33 = .ok (.aload_n 0, 1) := by decide +kernel
theorem dX7_init_34 : decode cX7_init 34 = .ok (.new 28, 3) := by decide +kernel
theorem dX7_init_37 : decode cX7_init 37 = .ok (.dup, 1) := by decide +kernel
theorem dX7_init_38 : decode cX7_init 38 = .ok (.invokespecial 30, 3) := by decide +kernel
theorem dX7_init_41 : decode cX7_init 41 = .ok (.putfield 31, 3) := by decide +kernel
theorem dX7_init_44 : decode cX7_init 44 = .ok (.aload_n 0, 1) := by decide +kernel
theorem dX7_init_45 : decode cX7_init 45 = .ok (.bipush 64, 2) := by decide +kernel
theorem dX7_init_47 : decode cX7_init 47 = .ok (.newarray .int, 2) := by decide +kernel
theorem dX7_init_49 : decode cX7_init 49 = .ok (.putfield 35, 3) := by decide +kernel
theorem dX7_init_52 : decode cX7_init 52 = .ok (.iconst 0, 1) := by decide +kernel
theorem dX7_init_53 : decode cX7_init 53 = .ok (.istore_n 1, 1) := by decide +kernel
theorem dX7_init_54 : decode cX7_init 54 = .ok (.iload_n 1, 1) := by decide +kernel
theorem dX7_init_55 : decode cX7_init 55 = .ok (.bipush 8, 2) := by decide +kernel
theorem dX7_init_57 : decode cX7_init 57 = .ok (.if_icmp .ge 23, 3) := by decide +kernel
theorem dX7_init_60 : decode cX7_init 60 = .ok (.aload_n 0, 1) := by decide +kernel
theorem dX7_init_61 : decode cX7_init 61 = .ok (.getfield 11, 3) := by decide +kernel
theorem dX7_init_64 : decode cX7_init 64 = .ok (.iload_n 1, 1) := by decide +kernel
theorem dX7_init_65 : decode cX7_init 65 = .ok (.new 9, 3) := by decide +kernel
theorem dX7_init_68 : decode cX7_init 68 = .ok (.dup, 1) := by decide +kernel
theorem dX7_init_69 : decode cX7_init 69 = .ok (.iload_n 1, 1) := by decide +kernel
theorem dX7_init_70 : decode cX7_init 70 = .ok (.invokespecial 39, 3) := by decide +kernel
theorem dX7_init_73 : decode cX7_init 73 = .ok (.aastore, 1) := by decide +kernel
theorem dX7_init_74 : decode cX7_init 74 = .ok (.iinc 1 1, 3) := by decide +kernel
theorem dX7_init_77 : decode cX7_init 77 = .ok (.goto (-23), 3) := by decide +kernel
theorem dX7_init_80 : decode cX7_init 80 = .ok (.iconst 0, 1) := by decide +kernel
theorem dX7_init_81 : decode cX7_init 81 = .ok (.istore_n 1, 1) := by decide +kernel
theorem dX7_init_82 : decode cX7_init 82 = .ok (.iload_n 1, 1) := by decide +kernel
theorem dX7_init_83 : decode cX7_init 83 = .ok (.bipush 12, 2) := by decide +kernel
theorem dX7_init_85 : decode cX7_init 85 = .ok (.if_icmp .ge 22, 3) := by decide +kernel
theorem dX7_init_88 : decode cX7_init 88 = .ok (.aload_n 0, 1) := by decide +kernel
theorem dX7_init_89 : decode cX7_init 89 = .ok (.getfield 17, 3) := by decide +kernel
theorem dX7_init_92 : decode cX7_init 92 = .ok (.iload_n 1, 1) := by decide +kernel
theorem dX7_init_93 : decode cX7_init 93 = .ok (.new 15, 3) := by decide +kernel
theorem dX7_init_96 : decode cX7_init 96 = .ok (.dup, 1) := by decide +kernel
theorem dX7_init_97 : decode cX7_init 97 = .ok (.invokespecial 42, 3) := by decide +kernel
theorem dX7_init_100 : decode cX7_init 100 = .ok (.aastore, 1) := by decide +kernel
theorem dX7_init_101 : decode cX7_init 101 = .ok (.iinc 1 1, 3) := by decide +kernel
theorem dX7_init_104 : decode cX7_init 104 = .ok (.goto (-22), 3) := by decide +kernel
theorem dX7_init_107 : decode cX7_init 107 = .ok (.return_, 1) := by decide +kernel
theorem dX7_edition_0 : decode cX7_edition 0 = .ok (.aload_n 0, 1) := by decide +kernel
theorem dX7_edition_1 : decode cX7_edition 1 = .ok (.invokevirtual 43, 3) := by decide +kernel
theorem dX7_edition_4 : decode cX7_edition 4 = .ok (.getfield 47, 3) := by decide +kernel
theorem dX7_edition_7 : decode cX7_edition 7 = .ok (.ireturn, 1) := by decide +kernel
theorem dX7_copy_0 : decode cX7_copy 0 = .ok (.aload_n 0, 1) := by decide +kernel
theorem dX7_copy_1 : decode cX7_copy 1 = .ok (.iload_n 1, 1) := by decide +kernel
theorem dX7_copy_2 : decode cX7_copy 2 = .ok (.invokevirtual 51, 3) := by decide +kernel
theorem dX7_copy_5 : decode cX7_copy 5 = .ok (.astore_n 2, 1) := by decide +kernel
theorem dX7_copy_6 : decode cX7_copy 6 = .ok (.aload_n 0, 1) := by decide +kernel
theorem dX7_copy_7 : decode cX7_copy 7 = .ok (.invokevirtual 43, 3) := by decide +kernel
theorem dX7_copy_10 : decode cX7_copy 10 = .ok (.astore_n 3, 1) := by decide +kernel
theorem dX7_copy_11 : decode cX7_copy 11 = .ok (.aload_n 3, 1) := by decide +kernel
theorem dX7_copy_12 : decode cX7_copy 12 = .ok (.aload_n 2, 1) := by decide +kernel
theorem dX7_copy_13 : decode cX7_copy 13 = .ok (.invokevirtual 55, 3) := by decide +kernel
theorem dX7_copy_16 : decode cX7_copy 16 = .ok (.aload_n 3, 1) := by decide +kernel
theorem dX7_copy_17 : decode cX7_copy 17 = .ok (.getfield 47, 3) := by decide +kernel
theorem dX7_copy_20 : decode cX7_copy 20 = .ok (.ireturn, 1) := by decide +kernel
theorem dX7_type_0 : decode cX7_type 0 = .ok (.aload_n 0, 1) := by decide +kernel
theorem dX7_type_1 : decode cX7_type 1 = .ok (.iload_n 1, 1) := by decide +kernel
theorem dX7_type_2 : decode cX7_type 2 = .ok (.invokevirtual 59, 3) := by decide +kernel
theorem dX7_type_5 : decode cX7_type 5 = .ok (.astore 8, 2) := by decide +kernel
theorem dX7_type_7 : decode cX7_type 7 = .ok (.iload_n 2, 1) := by decide +kernel
theorem dX7_type_8 : decode cX7_type 8 = .ok (.invokestatic 62, 3) := by decide +kernel
theorem dX7_type_11 : decode cX7_type 11 = .ok (.ifCond .eq 26, 3) := by decide +kernel
theorem dX7_type_14 : decode cX7_type 14 = .ok (.iload 5, 2) := by decide +kernel
theorem dX7_type_16 : decode cX7_type 16 = .ok (.iconst 4, 1) := by decide +kernel
theorem dX7_type_17 : decode cX7_type 17 = .ok (.invokestatic 66, 3) := by decide +kernel
theorem dX7_type_20 : decode cX7_type 20 = .ok (.ifCond .eq 17, 3) := by decide +kernel
theorem dX7_type_23 : decode cX7_type 23 = .ok (.iload 7, 2) := by decide +kernel
theorem dX7_type_25 : decode cX7_type 25 = .ok (.iconst (-1), 1) := by decide +kernel
theorem dX7_type_26 : decode cX7_type 26 = .ok (.if_icmp .eq 21, 3) := by decide +kernel
theorem dX7_type_29 : decode cX7_type 29 = .ok (.iload 7, 2) := by decide +kernel
theorem dX7_type_31 : decode cX7_type 31 = .ok (.invokestatic 62, 3) := by decide +kernel
theorem dX7_type_34 : decode cX7_type 34 = .ok (.ifCond .ne 13, 3) := by decide +kernel
theorem dX7_type_37 : decode cX7_type 37 = .ok (.new 70, 3) := by decide +kernel
theorem dX7_type_40 : decode cX7_type 40 = .ok (.dup, 1) := by decide +kernel
theorem dX7_type_41 : decode cX7_type 41 = .ok (.ldc 72, 2) := by decide +kernel
theorem dX7_type_43 : decode cX7_type 43 = .ok (.invokespecial 74, 3) := by decide +kernel
theorem dX7_type_46 : decode cX7_type 46 = .ok (.athrow, 1) := by decide +kernel
theorem dX7_type_47 : decode cX7_type 47 = .ok (.iload_n 3, 1) := by decide +kernel
theorem dX7_type_48 : decode cX7_type 48 = .ok (.ifCond .eq 19, 3) := by decide +kernel
theorem dX7_type_51 : decode cX7_type 51 = .ok (.iload 7, 2) := by decide +kernel
theorem dX7_type_53 : decode cX7_type 53 = .ok (.iconst (-1), 1) := by decide +kernel
theorem dX7_type_54 : decode cX7_type 54 = .ok (.if_icmp .eq 13, 3) := by decide +kernel
theorem dX7_type_57 : decode cX7_type 57 = .ok (.new 70, 3) := by decide +kernel
theorem dX7_type_60 : decode cX7_type 60 = .ok (.dup, 1) := by decide +kernel
theorem dX7_type_61 : decode cX7_type 61 = .ok (.ldc 77, 2) := by decide +kernel
theorem dX7_type_63 : decode cX7_type 63 = .ok (.invokespecial 74, 3) := by decide +kernel
theorem dX7_type_66 : decode cX7_type 66 = .ok (.athrow, 1) := by decide +kernel
theorem dX7_type_67 : decode cX7_type 67 = .ok (.aload 8, 2) := by decide +kernel
theorem dX7_type_69 : decode cX7_type 69 = .ok (.iload_n 2, 1) := by decide +kernel
theorem dX7_type_70 : decode cX7_type 70 = .ok (.invokevirtual 79, 3) := by decide +kernel
theorem dX7_type_73 : decode cX7_type 73 = .ok (.ifnull 13, 3) := by decide +kernel
theorem dX7_type_76 : decode cX7_type 76 = .ok (.new 70, 3) := by decide +kernel
theorem dX7_type_79 : decode cX7_type 79 = .ok (.dup, 1) := by decide +kernel
theorem dX7_type_80 : decode cX7_type 80 = .ok (.ldc 83, 2) := by decide +kernel
theorem dX7_type_82 : decode cX7_type 82 = .ok (.invokespecial 74, 3) := by decide +kernel
theorem dX7_type_85 : decode cX7_type 85 = .ok (.athrow, 1) := by decide +kernel
theorem dX7_type_86 : decode cX7_type 86 = .ok (.aload 8, 2) := by decide +kernel
theorem dX7_type_88 : decode cX7_type 88 = .ok (.getfield 85, 3) := by decide +kernel
theorem dX7_type_91 : decode cX7_type 91 = .ok (.bipush 10, 2) := by decide +kernel
theorem dX7_type_93 : decode cX7_type 93 = .ok (.if_icmp .lt 13, 3) := by decide +kernel
theorem dX7_type_96 : decode cX7_type 96 = .ok (.new 88, 3) := by decide +kernel
theorem dX7_type_99 : decode cX7_type 99 = .ok (.dup, 1) := by decide +kernel
theorem dX7_type_100 : decode cX7_type 100 = .ok (.ldc 90, 2) := by decide +kernel
theorem dX7_type_102 : decode cX7_type 102 = .ok (.invokespecial 92, 3) := by decide +kernel
theorem dX7_type_105 : decode cX7_type 105 = .ok (.athrow, 1) := by decide +kernel
theorem dX7_type_106 : decode cX7_type 106 = .ok (.aload 8, 2) := by decide +kernel
theorem dX7_type_108 : decode cX7_type 108 = .ok (.iload_n 2, 1) := by decide +kernel
theorem dX7_type_109 : decode cX7_type 109 = .ok (.iload_n 3, 1) := by decide +kernel
theorem dX7_type_110 : decode cX7_type 110 = .ok (.iload 4, 2) := by decide +kernel
theorem dX7_type_112 : decode cX7_type 112 = .ok (.iload 5, 2) := by decide +kernel
theorem dX7_type_114 : decode cX7_type 114 = .ok (.iload 6, 2) := by decide +kernel
theorem dX7_type_116 : decode cX7_type 116 = .ok (.iload 7, 2) := by decide +kernel
theorem dX7_type_118 : decode cX7_type 118 = .ok (.invokevirtual 93, 3) := by decide +kernel
theorem dX7_type_121 : decode cX7_type 121 = .ok (.aload 8, 2) := by decide +kernel
theorem dX7_type_123 : decode cX7_type 123 = .ok (.getfield 85, 3) := by decide +kernel
theorem dX7_type_126 : decode cX7_type 126 = .ok (.ireturn, 1) := by decide +kernel
theorem dX7_implement_0 : decode cX7_implement 0 = .ok (.aload_n 0, 1) := by decide +kernel
theorem dX7_implement_1 : decode cX7_implement 1 = .ok (.iload_n 1, 1) := by decide +kernel
theorem dX7_implement_2 : decode cX7_implement 2 = .ok (.invokevirtual 59, 3) := by decide +kernel
theorem dX7_implement_5 : decode cX7_implement 5 = .ok (.iload_n 2, 1) := by decide +kernel
theorem dX7_implement_6 : decode cX7_implement 6 = .ok (.invokestatic 97, 3) := by decide +kernel
theorem dX7_implement_9 : decode cX7_implement 9 = .ok (.astore 4, 2) := by decide +kernel
theorem dX7_implement_11 : decode cX7_implement 11 = .ok (.iload_n 3, 1) := by decide +kernel
theorem dX7_implement_12 : decode cX7_implement 12 = .ok (.invokestatic 62, 3) := by decide +kernel
theorem dX7_implement_15 : decode cX7_implement 15 = .ok (.ifCond .eq 12, 3) := by decide +kernel
theorem dX7_implement_18 : decode cX7_implement 18 = .ok (.aload 4, 2) := by decide +kernel
theorem dX7_implement_20 : decode cX7_implement 20 = .ok (.iload_n 3, 1) := by decide +kernel
theorem dX7_implement_21 : decode cX7_implement 21 = .ok (.invokevirtual 101, 3) := by decide +kernel
theorem dX7_implement_24 : decode cX7_implement 24 = .ok (.ifCond .eq 13, 3) := by decide +kernel
theorem dX7_implement_27 : decode cX7_implement 27 = .ok (.new 70, 3) := by decide +kernel
theorem dX7_implement_30 : decode cX7_implement 30 = .ok (.dup, 1) := by decide +kernel
theorem dX7_implement_31 : decode cX7_implement 31 = .ok (.ldc 106, 2) := by decide +kernel
theorem dX7_implement_33 : decode cX7_implement 33 = .ok (.invokespecial 74, 3) := by decide +kernel
theorem dX7_implement_36 : decode cX7_implement 36 = .ok (.athrow, 1) := by decide +kernel
theorem dX7_implement_37 : decode cX7_implement 37 = .ok (.aload 4, 2) := by decide +kernel
theorem dX7_implement_39 : decode cX7_implement 39 = .ok (.getfield 108, 3) := by decide +kernel
theorem dX7_implement_42 : decode cX7_implement 42 = .ok (.iconst 3, 1) := by decide +kernel
theorem dX7_implement_43 : decode cX7_implement 43 = .ok (.if_icmp .lt 13, 3) := by decide +kernel
theorem dX7_implement_46 : decode cX7_implement 46 = .ok (.new 88, 3) := by decide +kernel
theorem dX7_implement_49 : decode cX7_implement 49 = .ok (.dup, 1) := by decide +kernel
theorem dX7_implement_50 : decode cX7_implement 50 = .ok (.ldc 111, 2) := by decide +kernel
theorem dX7_implement_52 : decode cX7_implement 52 = .ok (.invokespecial 92, 3) := by decide +kernel
theorem dX7_implement_55 : decode cX7_implement 55 = .ok (.athrow, 1) := by decide +kernel
theorem dX7_implement_56 : decode cX7_implement 56 = .ok (.aload 4, 2) := by decide +kernel
theorem dX7_implement_58 : decode cX7_implement 58 = .ok (.iload_n 3, 1) := by decide +kernel
theorem dX7_implement_59 : decode cX7_implement 59 = .ok (.invokevirtual 113, 3) := by decide +kernel
theorem dX7_implement_62 : decode cX7_implement 62 = .ok (.aload 4, 2) := by decide +kernel
theorem dX7_implement_64 : decode cX7_implement 64 = .ok (.getfield 108, 3) := by decide +kernel
theorem dX7_implement_67 : decode cX7_implement 67 = .ok (.ireturn, 1) := by decide +kernel
theorem dX7_member_0 : decode cX7_member 0 = .ok (.aload_n 0, 1) := by decide +kernel
theorem dX7_member_1 : decode cX7_member 1 = .ok (.iload_n 1, 1) := by decide +kernel
theorem dX7_member_2 : decode cX7_member 2 = .ok (.invokevirtual 59, 3) := by decide +kernel
theorem dX7_member_5 : decode cX7_member 5 = .ok (.iload_n 2, 1) := by decide +kernel
theorem dX7_member_6 : decode cX7_member 6 = .ok (.invokestatic 97, 3) := by decide +kernel
theorem dX7_member_9 : decode cX7_member 9 = .ok (.astore 9, 2) := by decide +kernel
theorem dX7_member_11 : decode cX7_member 11 = .ok (.iload 4, 2) := by decide +kernel
theorem dX7_member_13 : decode cX7_member 13 = .ok (.iload 5, 2) := by decide +kernel
theorem dX7_member_15 : decode cX7_member 15 = .ok (.invokestatic 116, 3) := by decide +kernel
theorem dX7_member_18 : decode cX7_member 18 = .ok (.istore 10, 2) := by decide +kernel
theorem dX7_member_20 : decode cX7_member 20 = .ok (.iload 10, 2) := by decide +kernel
theorem dX7_member_22 : decode cX7_member 22 = .ok (.iconst (-1), 1) := by decide +kernel
theorem dX7_member_23 : decode cX7_member 23 = .ok (.if_icmp .eq 18, 3) := by decide +kernel
theorem dX7_member_26 : decode cX7_member 26 = .ok (.aload 9, 2) := by decide +kernel
theorem dX7_member_28 : decode cX7_member 28 = .ok (.iload_n 3, 1) := by decide +kernel
theorem dX7_member_29 : decode cX7_member 29 = .ok (.iload 6, 2) := by decide +kernel
theorem dX7_member_31 : decode cX7_member 31 = .ok (.iload 7, 2) := by decide +kernel
theorem dX7_member_33 : decode cX7_member 33 = .ok (.iload 8, 2) := by decide +kernel
theorem dX7_member_35 : decode cX7_member 35 = .ok (.invokestatic 120, 3) := by decide +kernel
theorem dX7_member_38 : decode cX7_member 38 = .ok (.ifCond .ne 13, 3) := by decide +kernel
theorem dX7_member_41 : decode cX7_member 41 = .ok (.new 70, 3) := by decide +kernel
theorem dX7_member_44 : decode cX7_member 44 = .ok (.dup, 1) := by decide +kernel
theorem dX7_member_45 : decode cX7_member 45 = .ok (.ldc 124, 2) := by decide +kernel
theorem dX7_member_47 : decode cX7_member 47 = .ok (.invokespecial 74, 3) := by decide +kernel
theorem dX7_member_50 : decode cX7_member 50 = .ok (.athrow, 1) := by decide +kernel
theorem dX7_member_51 : decode cX7_member 51 = .ok (.aload 9, 2) := by decide +kernel
theorem dX7_member_53 : decode cX7_member 53 = .ok (.iload_n 3, 1) := by decide +kernel
theorem dX7_member_54 : decode cX7_member 54 = .ok (.iconst 1, 1) := by decide +kernel
theorem dX7_member_55 : decode cX7_member 55 = .ok (.if_icmp .ne 7, 3) := by decide +kernel
theorem dX7_member_58 : decode cX7_member 58 = .ok (.iconst 1, 1) := by decide +kernel
theorem dX7_member_59 : decode cX7_member 59 = .ok (.goto 4, 3) := by decide +kernel
theorem dX7_member_62 : decode cX7_member 62 = .ok (.iconst 0, 1) := by decide +kernel
theorem dX7_member_63 : decode cX7_member 63 = .ok (.iload 10, 2) := by decide +kernel
theorem dX7_member_65 : decode cX7_member 65 = .ok (.invokevirtual 126, 3) := by decide +kernel
theorem dX7_member_68 : decode cX7_member 68 = .ok (.ifCond .eq 13, 3) := by decide +kernel
theorem dX7_member_71 : decode cX7_member 71 = .ok (.new 70, 3) := by decide +kernel
theorem dX7_member_74 : decode cX7_member 74 = .ok (.dup, 1) := by decide +kernel
theorem dX7_member_75 : decode cX7_member 75 = .ok (.ldc 130, 2) := by decide +kernel
theorem dX7_member_77 : decode cX7_member 77 = .ok (.invokespecial 74, 3) := by decide +kernel
theorem dX7_member_80 : decode cX7_member 80 = .ok (.athrow, 1) := by decide +kernel
theorem dX7_member_81 : decode cX7_member 81 = .ok (.aload 9, 2) := by decide +kernel
theorem dX7_member_83 : decode cX7_member 83 = .ok (.getfield 132, 3) := by decide +kernel
theorem dX7_member_86 : decode cX7_member 86 = .ok (.bipush 6, 2) := by decide +kernel
theorem dX7_member_88 : decode cX7_member 88 = .ok (.if_icmp .lt 13, 3) := by decide +kernel
theorem dX7_member_91 : decode cX7_member 91 = .ok (.new 88, 3) := by decide +kernel
theorem dX7_member_94 : decode cX7_member 94 = .ok (.dup, 1) := by decide +kernel
theorem dX7_member_95 : decode cX7_member 95 = .ok (.ldc 135, 2) := by decide +kernel
theorem dX7_member_97 : decode cX7_member 97 = .ok (.invokespecial 92, 3) := by decide +kernel
theorem dX7_member_100 : decode cX7_member 100 = .ok (.athrow, 1) := by decide +kernel
theorem dX7_member_101 : decode cX7_member 101 = .ok (.aload 9, 2) := by decide +kernel
theorem dX7_member_103 : decode cX7_member 103 = .ok (.iload_n 3, 1) := by decide +kernel
theorem dX7_member_104 : decode cX7_member 104 = .ok (.iload 10, 2) := by decide +kernel
theorem dX7_member_106 : decode cX7_member 106 = .ok (.iload 6, 2) := by decide +kernel
theorem dX7_member_108 : decode cX7_member 108 = .ok (.iload 7, 2) := by decide +kernel
theorem dX7_member_110 : decode cX7_member 110 = .ok (.iload 8, 2) := by decide +kernel
theorem dX7_member_112 : decode cX7_member 112 = .ok (.invokevirtual 137, 3) := by decide +kernel
theorem dX7_member_115 : decode cX7_member 115 = .ok (.aload 9, 2) := by decide +kernel
theorem dX7_member_117 : decode cX7_member 117 = .ok (.getfield 132, 3) := by decide +kernel
theorem dX7_member_120 : decode cX7_member 120 = .ok (.ireturn, 1) := by decide +kernel
theorem dX7_drop_0 : decode cX7_drop 0 = .ok (.aload_n 0, 1) := by decide +kernel
theorem dX7_drop_1 : decode cX7_drop 1 = .ok (.iload_n 1, 1) := by decide +kernel
theorem dX7_drop_2 : decode cX7_drop 2 = .ok (.invokevirtual 59, 3) := by decide +kernel
theorem dX7_drop_5 : decode cX7_drop 5 = .ok (.astore 6, 2) := by decide +kernel
theorem dX7_drop_7 : decode cX7_drop 7 = .ok (.aload 6, 2) := by decide +kernel
theorem dX7_drop_9 : decode cX7_drop 9 = .ok (.iload_n 2, 1) := by decide +kernel
theorem dX7_drop_10 : decode cX7_drop 10 = .ok (.invokevirtual 79, 3) := by decide +kernel
theorem dX7_drop_13 : decode cX7_drop 13 = .ok (.astore 7, 2) := by decide +kernel
theorem dX7_drop_15 : decode cX7_drop 15 = .ok (.aload 7, 2) := by decide +kernel
theorem dX7_drop_17 : decode cX7_drop 17 = .ok (.ifnonnull 5, 3) := by decide +kernel
theorem dX7_drop_20 : decode cX7_drop 20 = .ok (.iconst 0, 1) := by decide +kernel
theorem dX7_drop_21 : decode cX7_drop 21 = .ok (.ireturn, 1) := by decide +kernel
theorem dX7_drop_22 : decode cX7_drop 22 = .ok (.iload_n 3, 1) := by decide +kernel
theorem dX7_drop_23 : decode cX7_drop 23 = .ok (.iconst 2, 1) := by decide +kernel
theorem dX7_drop_24 : decode cX7_drop 24 = .ok (.if_icmp .ne 12, 3) := by decide +kernel
theorem dX7_drop_27 : decode cX7_drop 27 = .ok (.aload 6, 2) := by decide +kernel
theorem dX7_drop_29 : decode cX7_drop 29 = .ok (.aload 7, 2) := by decide +kernel
theorem dX7_drop_31 : decode cX7_drop 31 = .ok (.invokevirtual 141, 3) := by decide +kernel
theorem dX7_drop_34 : decode cX7_drop 34 = .ok (.iconst 1, 1) := by decide +kernel
theorem dX7_drop_35 : decode cX7_drop 35 = .ok (.ireturn, 1) := by decide +kernel
theorem dX7_drop_36 : decode cX7_drop 36 = .ok (.iload_n 3, 1) := by decide +kernel
theorem dX7_drop_37 : decode cX7_drop 37 = .ok (.ifCond .eq 10, 3) := by decide +kernel
theorem dX7_drop_40 : decode cX7_drop 40 = .ok (.iload_n 3, 1) := by decide +kernel
theorem dX7_drop_41 : decode cX7_drop 41 = .ok (.iconst 1, 1) := by decide +kernel
theorem dX7_drop_42 : decode cX7_drop 42 = .ok (.if_icmp .eq 5, 3) := by decide +kernel
theorem dX7_drop_45 : decode cX7_drop 45 = .ok (.iconst 0, 1) := by decide +kernel
theorem dX7_drop_46 : decode cX7_drop 46 = .ok (.ireturn, 1) := by decide +kernel
theorem dX7_drop_47 : decode cX7_drop 47 = .ok (.aload 7, 2) := by decide +kernel
theorem dX7_drop_49 : decode cX7_drop 49 = .ok (.iload_n 3, 1) := by decide +kernel
theorem dX7_drop_50 : decode cX7_drop 50 = .ok (.iconst 1, 1) := by decide +kernel
theorem dX7_drop_51 : decode cX7_drop 51 = .ok (.if_icmp .ne 7, 3) := by decide +kernel
theorem dX7_drop_54 : decode cX7_drop 54 = .ok (.iconst 1, 1) := by decide +kernel
theorem dX7_drop_55 : decode cX7_drop 55 = .ok (.goto 4, 3) := by decide +kernel
theorem dX7_drop_58 : decode cX7_drop 58 = .ok (.iconst 0, 1) := by decide +kernel
theorem dX7_drop_59 : decode cX7_drop 59 = .ok (.iload 4, 2) := by decide +kernel
theorem dX7_drop_61 : decode cX7_drop 61 = .ok (.iload 5, 2) := by decide +kernel
theorem dX7_drop_63 : decode cX7_drop 63 = .ok (.invokestatic 116, 3) := by decide +kernel
theorem dX7_drop_66 : decode cX7_drop 66 = .ok (.invokevirtual 145, 3) := by decide +kernel
theorem dX7_drop_69 : decode cX7_drop 69 = .ok (.ireturn, 1) := by decide +kernel
theorem dX7_seal_0 : decode cX7_seal 0 = .ok (.aload_n 0, 1) := by decide +kernel
theorem dX7_seal_1 : decode cX7_seal 1 = .ok (.iload_n 1, 1) := by decide +kernel
theorem dX7_seal_2 : decode cX7_seal 2 = .ok (.invokevirtual 59, 3) := by decide +kernel
theorem dX7_seal_5 : decode cX7_seal 5 = .ok (.astore_n 2, 1) := by decide +kernel
theorem dX7_seal_6 : decode cX7_seal 6 = .ok (.aload_n 2, 1) := by decide +kernel
theorem dX7_seal_7 : decode cX7_seal 7 = .ok (.invokevirtual 148, 3) := by decide +kernel
theorem dX7_seal_10 : decode cX7_seal 10 = .ok (.istore_n 3, 1) := by decide +kernel
theorem dX7_seal_11 : decode cX7_seal 11 = .ok (.iload_n 3, 1) := by decide +kernel
theorem dX7_seal_12 : decode cX7_seal 12 = .ok (.iconst (-1), 1) := by decide +kernel
theorem dX7_seal_13 : decode cX7_seal 13 = .ok (.if_icmp .ne 8, 3) := by decide +kernel
theorem dX7_seal_16 : decode cX7_seal 16 = .ok (.aload_n 2, 1) := by decide +kernel
theorem dX7_seal_17 : decode cX7_seal 17 = .ok (.invokevirtual 152, 3) := by decide +kernel
theorem dX7_seal_20 : decode cX7_seal 20 = .ok (.istore_n 3, 1) := by decide +kernel
theorem dX7_seal_21 : decode cX7_seal 21 = .ok (.iload_n 3, 1) := by decide +kernel
theorem dX7_seal_22 : decode cX7_seal 22 = .ok (.iconst (-1), 1) := by decide +kernel
theorem dX7_seal_23 : decode cX7_seal 23 = .ok (.if_icmp .ne 8, 3) := by decide +kernel
theorem dX7_seal_26 : decode cX7_seal 26 = .ok (.aload_n 2, 1) := by decide +kernel
theorem dX7_seal_27 : decode cX7_seal 27 = .ok (.iconst 1, 1) := by decide +kernel
theorem dX7_seal_28 : decode cX7_seal 28 = .ok (.putfield 155, 3) := by decide +kernel
theorem dX7_seal_31 : decode cX7_seal 31 = .ok (.iload_n 3, 1) := by decide +kernel
theorem dX7_seal_32 : decode cX7_seal 32 = .ok (.ireturn, 1) := by decide +kernel
theorem dX7_above_0 : decode cX7_above 0 = .ok (.aload_n 0, 1) := by decide +kernel
theorem dX7_above_1 : decode cX7_above 1 = .ok (.iload_n 1, 1) := by decide +kernel
theorem dX7_above_2 : decode cX7_above 2 = .ok (.invokevirtual 51, 3) := by decide +kernel
theorem dX7_above_5 : decode cX7_above 5 = .ok (.iload_n 2, 1) := by decide +kernel
theorem dX7_above_6 : decode cX7_above 6 = .ok (.iload_n 3, 1) := by decide +kernel
theorem dX7_above_7 : decode cX7_above 7 = .ok (.invokevirtual 159, 3) := by decide +kernel
theorem dX7_above_10 : decode cX7_above 10 = .ok (.ireturn, 1) := by decide +kernel
theorem dX7_find_0 : decode cX7_find 0 = .ok (.aload_n 0, 1) := by decide +kernel
theorem dX7_find_1 : decode cX7_find 1 = .ok (.iload_n 1, 1) := by decide +kernel
theorem dX7_find_2 : decode cX7_find 2 = .ok (.invokevirtual 51, 3) := by decide +kernel
theorem dX7_find_5 : decode cX7_find 5 = .ok (.astore 6, 2) := by decide +kernel
theorem dX7_find_7 : decode cX7_find 7 = .ok (.aload 6, 2) := by decide +kernel
theorem dX7_find_9 : decode cX7_find 9 = .ok (.aload 6, 2) := by decide +kernel
theorem dX7_find_11 : decode cX7_find 11 = .ok (.iload_n 2, 1) := by decide +kernel
theorem dX7_find_12 : decode cX7_find 12 = .ok (.invokevirtual 79, 3) := by decide +kernel
theorem dX7_find_15 : decode cX7_find 15 = .ok (.iload_n 3, 1) := by decide +kernel
theorem dX7_find_16 : decode cX7_find 16 = .ok (.iload 4, 2) := by decide +kernel
theorem dX7_find_18 : decode cX7_find 18 = .ok (.iload 5, 2) := by decide +kernel
theorem dX7_find_20 : decode cX7_find 20 = .ok (.invokestatic 116, 3) := by decide +kernel
theorem dX7_find_23 : decode cX7_find 23 = .ok (.invokevirtual 162, 3) := by decide +kernel
theorem dX7_find_26 : decode cX7_find 26 = .ok (.invokestatic 166, 3) := by decide +kernel
theorem dX7_find_29 : decode cX7_find 29 = .ok (.ireturn, 1) := by decide +kernel
theorem dX7_select_0 : decode cX7_select 0 = .ok (.aload_n 0, 1) := by decide +kernel
theorem dX7_select_1 : decode cX7_select 1 = .ok (.iload_n 1, 1) := by decide +kernel
theorem dX7_select_2 : decode cX7_select 2 = .ok (.invokevirtual 51, 3) := by decide +kernel
theorem dX7_select_5 : decode cX7_select 5 = .ok (.astore 6, 2) := by decide +kernel
theorem dX7_select_7 : decode cX7_select 7 = .ok (.aload 6, 2) := by decide +kernel
theorem dX7_select_9 : decode cX7_select 9 = .ok (.aload 6, 2) := by decide +kernel
theorem dX7_select_11 : decode cX7_select 11 = .ok (.iload_n 2, 1) := by decide +kernel
theorem dX7_select_12 : decode cX7_select 12 = .ok (.invokevirtual 79, 3) := by decide +kernel
theorem dX7_select_15 : decode cX7_select 15 = .ok (.iload_n 3, 1) := by decide +kernel
theorem dX7_select_16 : decode cX7_select 16 = .ok (.iload 4, 2) := by decide +kernel
theorem dX7_select_18 : decode cX7_select 18 = .ok (.invokestatic 116, 3) := by decide +kernel
theorem dX7_select_21 : decode cX7_select 21 = .ok (.aload 6, 2) := by decide +kernel
theorem dX7_select_23 : decode cX7_select 23 = .ok (.iload 5, 2) := by decide +kernel
theorem dX7_select_25 : decode cX7_select 25 = .ok (.invokevirtual 170, 3) := by decide +kernel
theorem dX7_select_28 : decode cX7_select 28 = .ok (.invokevirtual 173, 3) := by decide +kernel
theorem dX7_select_31 : decode cX7_select 31 = .ok (.invokestatic 166, 3) := by decide +kernel
theorem dX7_select_34 : decode cX7_select 34 = .ok (.ireturn, 1) := by decide +kernel
theorem dX7_caller_0 : decode cX7_caller 0 = .ok (.aload_n 0, 1) := by decide +kernel
theorem dX7_caller_1 : decode cX7_caller 1 = .ok (.iload_n 1, 1) := by decide +kernel
theorem dX7_caller_2 : decode cX7_caller 2 = .ok (.invokevirtual 51, 3) := by decide +kernel
theorem dX7_caller_5 : decode cX7_caller 5 = .ok (.astore 4, 2) := by decide +kernel
theorem dX7_caller_7 : decode cX7_caller 7 = .ok (.iload_n 2, 1) := by decide +kernel
theorem dX7_caller_8 : decode cX7_caller 8 = .ok (.iconst 5, 1) := by decide +kernel
theorem dX7_caller_9 : decode cX7_caller 9 = .ok (.invokestatic 66, 3) := by decide +kernel
theorem dX7_caller_12 : decode cX7_caller 12 = .ok (.ifCond .ne 13, 3) := by decide +kernel
theorem dX7_caller_15 : decode cX7_caller 15 = .ok (.new 70, 3) := by decide +kernel
theorem dX7_caller_18 : decode cX7_caller 18 = .ok (.dup, 1) := by decide +kernel
theorem dX7_caller_19 : decode cX7_caller 19 = .ok (.ldc 177, 2) := by decide +kernel
theorem dX7_caller_21 : decode cX7_caller 21 = .ok (.invokespecial 74, 3) := by decide +kernel
theorem dX7_caller_24 : decode cX7_caller 24 = .ok (.athrow, 1) := by decide +kernel
theorem dX7_caller_25 : decode cX7_caller 25 = .ok (.iload_n 3, 1) := by decide +kernel
theorem dX7_caller_26 : decode cX7_caller 26 = .ok (.iconst (-1), 1) := by decide +kernel
theorem dX7_caller_27 : decode cX7_caller 27 = .ok (.if_icmp .eq 22, 3) := by decide +kernel
theorem dX7_caller_30 : decode cX7_caller 30 = .ok (.aload 4, 2) := by decide +kernel
theorem dX7_caller_32 : decode cX7_caller 32 = .ok (.iload_n 3, 1) := by decide +kernel
theorem dX7_caller_33 : decode cX7_caller 33 = .ok (.invokevirtual 170, 3) := by decide +kernel
theorem dX7_caller_36 : decode cX7_caller 36 = .ok (.ifnonnull 13, 3) := by decide +kernel
theorem dX7_caller_39 : decode cX7_caller 39 = .ok (.new 70, 3) := by decide +kernel
theorem dX7_caller_42 : decode cX7_caller 42 = .ok (.dup, 1) := by decide +kernel
theorem dX7_caller_43 : decode cX7_caller 43 = .ok (.ldc 179, 2) := by decide +kernel
theorem dX7_caller_45 : decode cX7_caller 45 = .ok (.invokespecial 74, 3) := by decide +kernel
theorem dX7_caller_48 : decode cX7_caller 48 = .ok (.athrow, 1) := by decide +kernel
theorem dX7_caller_49 : decode cX7_caller 49 = .ok (.aload_n 0, 1) := by decide +kernel
theorem dX7_caller_50 : decode cX7_caller 50 = .ok (.getfield 181, 3) := by decide +kernel
theorem dX7_caller_53 : decode cX7_caller 53 = .ok (.bipush 12, 2) := by decide +kernel
theorem dX7_caller_55 : decode cX7_caller 55 = .ok (.if_icmp .lt 13, 3) := by decide +kernel
theorem dX7_caller_58 : decode cX7_caller 58 = .ok (.new 88, 3) := by decide +kernel
theorem dX7_caller_61 : decode cX7_caller 61 = .ok (.dup, 1) := by decide +kernel
theorem dX7_caller_62 : decode cX7_caller 62 = .ok (.ldc 184, 2) := by decide +kernel
theorem dX7_caller_64 : decode cX7_caller 64 = .ok (.invokespecial 92, 3) := by decide +kernel
theorem dX7_caller_67 : decode cX7_caller 67 = .ok (.athrow, 1) := by decide +kernel
theorem dX7_caller_68 : decode cX7_caller 68 = .ok (.aload_n 0, 1) := by decide +kernel
theorem dX7_caller_69 : decode cX7_caller 69 = .ok (.getfield 17, 3) := by decide +kernel
theorem dX7_caller_72 : decode cX7_caller 72 = .ok (.aload_n 0, 1) := by decide +kernel
theorem dX7_caller_73 : decode cX7_caller 73 = .ok (.getfield 181, 3) := by decide +kernel
theorem dX7_caller_76 : decode cX7_caller 76 = .ok (.aaload, 1) := by decide +kernel
theorem dX7_caller_77 : decode cX7_caller 77 = .ok (.iload_n 1, 1) := by decide +kernel
theorem dX7_caller_78 : decode cX7_caller 78 = .ok (.iload_n 2, 1) := by decide +kernel
theorem dX7_caller_79 : decode cX7_caller 79 = .ok (.iload_n 3, 1) := by decide +kernel
theorem dX7_caller_80 : decode cX7_caller 80 = .ok (.invokevirtual 186, 3) := by decide +kernel
theorem dX7_caller_83 : decode cX7_caller 83 = .ok (.aload_n 0, 1) := by decide +kernel
theorem dX7_caller_84 : decode cX7_caller 84 = .ok (.dup, 1) := by decide +kernel
theorem dX7_caller_85 : decode cX7_caller 85 = .ok (.getfield 181, 3) := by decide +kernel
theorem dX7_caller_88 : decode cX7_caller 88 = .ok (.iconst 1, 1) := by decide +kernel
theorem dX7_caller_89 : decode cX7_caller 89 = .ok (.iadd, 1) := by decide +kernel
theorem dX7_caller_90 : decode cX7_caller 90 = .ok (.putfield 181, 3) := by decide +kernel
theorem dX7_caller_93 : decode cX7_caller 93 = .ok (.aload_n 0, 1) := by decide +kernel
theorem dX7_caller_94 : decode cX7_caller 94 = .ok (.getfield 181, 3) := by decide +kernel
theorem dX7_caller_97 : decode cX7_caller 97 = .ok (.iconst 1, 1) := by decide +kernel
theorem dX7_caller_98 : decode cX7_caller 98 = .ok (.isub, 1) := by decide +kernel
theorem dX7_caller_99 : decode cX7_caller 99 = .ok (.ireturn, 1) := by decide +kernel
theorem dX7_use_0 : decode cX7_use 0 = .ok (.aload_n 0, 1) := by decide +kernel
theorem dX7_use_1 : decode cX7_use 1 = .ok (.iload_n 1, 1) := by decide +kernel
theorem dX7_use_2 : decode cX7_use 2 = .ok (.invokevirtual 190, 3) := by decide +kernel
theorem dX7_use_5 : decode cX7_use 5 = .ok (.astore 7, 2) := by decide +kernel
theorem dX7_use_7 : decode cX7_use 7 = .ok (.iload_n 2, 1) := by decide +kernel
theorem dX7_use_8 : decode cX7_use 8 = .ok (.bipush 6, 2) := by decide +kernel
theorem dX7_use_10 : decode cX7_use 10 = .ok (.invokestatic 66, 3) := by decide +kernel
theorem dX7_use_13 : decode cX7_use 13 = .ok (.ifCond .ne 13, 3) := by decide +kernel
theorem dX7_use_16 : decode cX7_use 16 = .ok (.new 70, 3) := by decide +kernel
theorem dX7_use_19 : decode cX7_use 19 = .ok (.dup, 1) := by decide +kernel
theorem dX7_use_20 : decode cX7_use 20 = .ok (.ldc 194, 2) := by decide +kernel
theorem dX7_use_22 : decode cX7_use 22 = .ok (.invokespecial 74, 3) := by decide +kernel
theorem dX7_use_25 : decode cX7_use 25 = .ok (.athrow, 1) := by decide +kernel
theorem dX7_use_26 : decode cX7_use 26 = .ok (.aload 7, 2) := by decide +kernel
theorem dX7_use_28 : decode cX7_use 28 = .ok (.getfield 196, 3) := by decide +kernel
theorem dX7_use_31 : decode cX7_use 31 = .ok (.bipush 20, 2) := by decide +kernel
theorem dX7_use_33 : decode cX7_use 33 = .ok (.if_icmp .lt 13, 3) := by decide +kernel
theorem dX7_use_36 : decode cX7_use 36 = .ok (.new 88, 3) := by decide +kernel
theorem dX7_use_39 : decode cX7_use 39 = .ok (.dup, 1) := by decide +kernel
theorem dX7_use_40 : decode cX7_use 40 = .ok (.ldc 199, 2) := by decide +kernel
theorem dX7_use_42 : decode cX7_use 42 = .ok (.invokespecial 92, 3) := by decide +kernel
theorem dX7_use_45 : decode cX7_use 45 = .ok (.athrow, 1) := by decide +kernel
theorem dX7_use_46 : decode cX7_use 46 = .ok (.aload 7, 2) := by decide +kernel
theorem dX7_use_48 : decode cX7_use 48 = .ok (.getfield 201, 3) := by decide +kernel
theorem dX7_use_51 : decode cX7_use 51 = .ok (.aload 7, 2) := by decide +kernel
theorem dX7_use_53 : decode cX7_use 53 = .ok (.getfield 196, 3) := by decide +kernel
theorem dX7_use_56 : decode cX7_use 56 = .ok (.aaload, 1) := by decide +kernel
theorem dX7_use_57 : decode cX7_use 57 = .ok (.astore 8, 2) := by decide +kernel
theorem dX7_use_59 : decode cX7_use 59 = .ok (.aload 8, 2) := by decide +kernel
theorem dX7_use_61 : decode cX7_use 61 = .ok (.iload_n 2, 1) := by decide +kernel
theorem dX7_use_62 : decode cX7_use 62 = .ok (.iload_n 3, 1) := by decide +kernel
theorem dX7_use_63 : decode cX7_use 63 = .ok (.iload 4, 2) := by decide +kernel
theorem dX7_use_65 : decode cX7_use 65 = .ok (.iload 5, 2) := by decide +kernel
theorem dX7_use_67 : decode cX7_use 67 = .ok (.invokestatic 116, 3) := by decide +kernel
theorem dX7_use_70 : decode cX7_use 70 = .ok (.iload 6, 2) := by decide +kernel
theorem dX7_use_72 : decode cX7_use 72 = .ok (.invokevirtual 205, 3) := by decide +kernel
theorem dX7_use_75 : decode cX7_use 75 = .ok (.aload 8, 2) := by decide +kernel
theorem dX7_use_77 : decode cX7_use 77 = .ok (.aload_n 0, 1) := by decide +kernel
theorem dX7_use_78 : decode cX7_use 78 = .ok (.getfield 11, 3) := by decide +kernel
theorem dX7_use_81 : decode cX7_use 81 = .ok (.aload 7, 2) := by decide +kernel
theorem dX7_use_83 : decode cX7_use 83 = .ok (.getfield 210, 3) := by decide +kernel
theorem dX7_use_86 : decode cX7_use 86 = .ok (.aaload, 1) := by decide +kernel
theorem dX7_use_87 : decode cX7_use 87 = .ok (.invokevirtual 213, 3) := by decide +kernel
theorem dX7_use_90 : decode cX7_use 90 = .ok (.aload 7, 2) := by decide +kernel
theorem dX7_use_92 : decode cX7_use 92 = .ok (.aload 8, 2) := by decide +kernel
theorem dX7_use_94 : decode cX7_use 94 = .ok (.aload_n 0, 1) := by decide +kernel
theorem dX7_use_95 : decode cX7_use 95 = .ok (.getfield 11, 3) := by decide +kernel
theorem dX7_use_98 : decode cX7_use 98 = .ok (.aload 7, 2) := by decide +kernel
theorem dX7_use_100 : decode cX7_use 100 = .ok (.getfield 210, 3) := by decide +kernel
theorem dX7_use_103 : decode cX7_use 103 = .ok (.aaload, 1) := by decide +kernel
theorem dX7_use_104 : decode cX7_use 104 = .ok (.invokevirtual 216, 3) := by decide +kernel
theorem dX7_use_107 : decode cX7_use 107 = .ok (.ifCond .eq 5, 3) := by decide +kernel
theorem dX7_use_110 : decode cX7_use 110 = .ok (.iconst (-1), 1) := by decide +kernel
theorem dX7_use_111 : decode cX7_use 111 = .ok (.ireturn, 1) := by decide +kernel
theorem dX7_use_112 : decode cX7_use 112 = .ok (.aload 7, 2) := by decide +kernel
theorem dX7_use_114 : decode cX7_use 114 = .ok (.dup, 1) := by decide +kernel
theorem dX7_use_115 : decode cX7_use 115 = .ok (.getfield 196, 3) := by decide +kernel
theorem dX7_use_118 : decode cX7_use 118 = .ok (.iconst 1, 1) := by decide +kernel
theorem dX7_use_119 : decode cX7_use 119 = .ok (.iadd, 1) := by decide +kernel
theorem dX7_use_120 : decode cX7_use 120 = .ok (.putfield 196, 3) := by decide +kernel
theorem dX7_use_123 : decode cX7_use 123 = .ok (.aload 7, 2) := by decide +kernel
theorem dX7_use_125 : decode cX7_use 125 = .ok (.getfield 196, 3) := by decide +kernel
theorem dX7_use_128 : decode cX7_use 128 = .ok (.iconst 1, 1) := by decide +kernel
theorem dX7_use_129 : decode cX7_use 129 = .ok (.isub, 1) := by decide +kernel
theorem dX7_use_130 : decode cX7_use 130 = .ok (.ireturn, 1) := by decide +kernel
theorem dX7_foretell_0 : decode cX7_foretell 0 = .ok (.aload_n 0, 1) := by decide +kernel
theorem dX7_foretell_1 : decode cX7_foretell 1 = .ok (.iload_n 1, 1) := by decide +kernel
theorem dX7_foretell_2 : decode cX7_foretell 2 = .ok (.invokevirtual 190, 3) := by decide +kernel
theorem dX7_foretell_5 : decode cX7_foretell 5 = .ok (.astore 4, 2) := by decide +kernel
theorem dX7_foretell_7 : decode cX7_foretell 7 = .ok (.aload_n 0, 1) := by decide +kernel
theorem dX7_foretell_8 : decode cX7_foretell 8 = .ok (.iload_n 2, 1) := by decide +kernel
theorem dX7_foretell_9 : decode cX7_foretell 9 = .ok (.invokevirtual 220, 3) := by decide +kernel
theorem dX7_foretell_12 : decode cX7_foretell 12 = .ok (.astore 5, 2) := by decide +kernel
theorem dX7_foretell_14 : decode cX7_foretell 14 = .ok (.aload 4, 2) := by decide +kernel
theorem dX7_foretell_16 : decode cX7_foretell 16 = .ok (.iload_n 3, 1) := by decide +kernel
theorem dX7_foretell_17 : decode cX7_foretell 17 = .ok (.invokestatic 223, 3) := by decide +kernel
theorem dX7_foretell_20 : decode cX7_foretell 20 = .ok (.astore 6, 2) := by decide +kernel
theorem dX7_foretell_22 : decode cX7_foretell 22 = .ok (.aload 5, 2) := by decide +kernel
theorem dX7_foretell_24 : decode cX7_foretell 24 = .ok (.invokestatic 227, 3) := by decide +kernel
theorem dX7_foretell_27 : decode cX7_foretell 27 = .ok (.aload 4, 2) := by decide +kernel
theorem dX7_foretell_29 : decode cX7_foretell 29 = .ok (.aload 6, 2) := by decide +kernel
theorem dX7_foretell_31 : decode cX7_foretell 31 = .ok (.aload 5, 2) := by decide +kernel
theorem dX7_foretell_33 : decode cX7_foretell 33 = .ok (.invokevirtual 216, 3) := by decide +kernel
theorem dX7_foretell_36 : decode cX7_foretell 36 = .ok (.ireturn, 1) := by decide +kernel
theorem dX7_runs_0 : decode cX7_runs 0 = .ok (.aload_n 0, 1) := by decide +kernel
theorem dX7_runs_1 : decode cX7_runs 1 = .ok (.iload_n 1, 1) := by decide +kernel
theorem dX7_runs_2 : decode cX7_runs 2 = .ok (.invokevirtual 190, 3) := by decide +kernel
theorem dX7_runs_5 : decode cX7_runs 5 = .ok (.astore 4, 2) := by decide +kernel
theorem dX7_runs_7 : decode cX7_runs 7 = .ok (.aload_n 0, 1) := by decide +kernel
theorem dX7_runs_8 : decode cX7_runs 8 = .ok (.iload_n 2, 1) := by decide +kernel
theorem dX7_runs_9 : decode cX7_runs 9 = .ok (.invokevirtual 220, 3) := by decide +kernel
theorem dX7_runs_12 : decode cX7_runs 12 = .ok (.astore 5, 2) := by decide +kernel
theorem dX7_runs_14 : decode cX7_runs 14 = .ok (.aload 4, 2) := by decide +kernel
theorem dX7_runs_16 : decode cX7_runs 16 = .ok (.iload_n 3, 1) := by decide +kernel
theorem dX7_runs_17 : decode cX7_runs 17 = .ok (.invokestatic 223, 3) := by decide +kernel
theorem dX7_runs_20 : decode cX7_runs 20 = .ok (.astore 6, 2) := by decide +kernel
theorem dX7_runs_22 : decode cX7_runs 22 = .ok (.aload 5, 2) := by decide +kernel
theorem dX7_runs_24 : decode cX7_runs 24 = .ok (.invokestatic 227, 3) := by decide +kernel
theorem dX7_runs_27 : decode cX7_runs 27 = .ok (.aload 4, 2) := by decide +kernel
theorem dX7_runs_29 : decode cX7_runs 29 = .ok (.aload 6, 2) := by decide +kernel
theorem dX7_runs_31 : decode cX7_runs 31 = .ok (.aload 5, 2) := by decide +kernel
theorem dX7_runs_33 : decode cX7_runs 33 = .ok (.invokevirtual 216, 3) := by decide +kernel
theorem dX7_runs_36 : decode cX7_runs 36 = .ok (.istore 7, 2) := by decide +kernel
theorem dX7_runs_38 : decode cX7_runs 38 = .ok (.aload 6, 2) := by decide +kernel
theorem dX7_runs_40 : decode cX7_runs 40 = .ok (.invokevirtual 230, 3) := by decide +kernel
theorem dX7_runs_43 : decode cX7_runs 43 = .ok (.ifCond .eq 15, 3) := by decide +kernel
theorem dX7_runs_46 : decode cX7_runs 46 = .ok (.iload 7, 2) := by decide +kernel
theorem dX7_runs_48 : decode cX7_runs 48 = .ok (.ifCond .eq 12, 3) := by decide +kernel
theorem dX7_runs_51 : decode cX7_runs 51 = .ok (.iload 7, 2) := by decide +kernel
theorem dX7_runs_53 : decode cX7_runs 53 = .ok (.bipush 8, 2) := by decide +kernel
theorem dX7_runs_55 : decode cX7_runs 55 = .ok (.if_icmp .eq 5, 3) := by decide +kernel
theorem dX7_runs_58 : decode cX7_runs 58 = .ok (.iconst (-1), 1) := by decide +kernel
theorem dX7_runs_59 : decode cX7_runs 59 = .ok (.ireturn, 1) := by decide +kernel
theorem dX7_runs_60 : decode cX7_runs 60 = .ok (.aload 6, 2) := by decide +kernel
theorem dX7_runs_62 : decode cX7_runs 62 = .ok (.aload 5, 2) := by decide +kernel
theorem dX7_runs_64 : decode cX7_runs 64 = .ok (.invokevirtual 234, 3) := by decide +kernel
theorem dX7_runs_67 : decode cX7_runs 67 = .ok (.astore 8, 2) := by decide +kernel
theorem dX7_runs_69 : decode cX7_runs 69 = .ok (.aload 6, 2) := by decide +kernel
theorem dX7_runs_71 : decode cX7_runs 71 = .ok (.invokevirtual 238, 3) := by decide +kernel
theorem dX7_runs_74 : decode cX7_runs 74 = .ok (.ifCond .eq 15, 3) := by decide +kernel
theorem dX7_runs_77 : decode cX7_runs 77 = .ok (.aload 6, 2) := by decide +kernel
theorem dX7_runs_79 : decode cX7_runs 79 = .ok (.aload 5, 2) := by decide +kernel
theorem dX7_runs_81 : decode cX7_runs 81 = .ok (.aload 8, 2) := by decide +kernel
theorem dX7_runs_83 : decode cX7_runs 83 = .ok (.invokevirtual 241, 3) := by decide +kernel
theorem dX7_runs_86 : decode cX7_runs 86 = .ok (.goto 5, 3) := by decide +kernel
theorem dX7_runs_89 : decode cX7_runs 89 = .ok (.aload 8, 2) := by decide +kernel
theorem dX7_runs_91 : decode cX7_runs 91 = .ok (.invokestatic 166, 3) := by decide +kernel
theorem dX7_runs_94 : decode cX7_runs 94 = .ok (.ireturn, 1) := by decide +kernel
theorem dX7_copied_0 : decode cX7_copied 0 = .ok (.aload_n 0, 1) := by decide +kernel
theorem dX7_copied_1 : decode cX7_copied 1 = .ok (.iload_n 1, 1) := by decide +kernel
theorem dX7_copied_2 : decode cX7_copied 2 = .ok (.invokevirtual 190, 3) := by decide +kernel
theorem dX7_copied_5 : decode cX7_copied 5 = .ok (.iload_n 2, 1) := by decide +kernel
theorem dX7_copied_6 : decode cX7_copied 6 = .ok (.invokestatic 223, 3) := by decide +kernel
theorem dX7_copied_9 : decode cX7_copied 9 = .ok (.getfield 245, 3) := by decide +kernel
theorem dX7_copied_12 : decode cX7_copied 12 = .ok (.ireturn, 1) := by decide +kernel
theorem dX7_meets_0 : decode cX7_meets 0 = .ok (.aload_n 0, 1) := by decide +kernel
theorem dX7_meets_1 : decode cX7_meets 1 = .ok (.iload_n 1, 1) := by decide +kernel
theorem dX7_meets_2 : decode cX7_meets 2 = .ok (.invokevirtual 190, 3) := by decide +kernel
theorem dX7_meets_5 : decode cX7_meets 5 = .ok (.astore 4, 2) := by decide +kernel
theorem dX7_meets_7 : decode cX7_meets 7 = .ok (.aload 4, 2) := by decide +kernel
theorem dX7_meets_9 : decode cX7_meets 9 = .ok (.aload_n 0, 1) := by decide +kernel
theorem dX7_meets_10 : decode cX7_meets 10 = .ok (.iload_n 2, 1) := by decide +kernel
theorem dX7_meets_11 : decode cX7_meets 11 = .ok (.invokevirtual 51, 3) := by decide +kernel
theorem dX7_meets_14 : decode cX7_meets 14 = .ok (.iload_n 3, 1) := by decide +kernel
theorem dX7_meets_15 : decode cX7_meets 15 = .ok (.invokevirtual 248, 3) := by decide +kernel
theorem dX7_meets_18 : decode cX7_meets 18 = .ok (.ireturn, 1) := by decide +kernel
theorem dX7_best_0 : decode cX7_best 0 = .ok (.aload_n 0, 1) := by decide +kernel
theorem dX7_best_1 : decode cX7_best 1 = .ok (.iload_n 1, 1) := by decide +kernel
theorem dX7_best_2 : decode cX7_best 2 = .ok (.invokevirtual 190, 3) := by decide +kernel
theorem dX7_best_5 : decode cX7_best 5 = .ok (.astore_n 3, 1) := by decide +kernel
theorem dX7_best_6 : decode cX7_best 6 = .ok (.iconst (-1), 1) := by decide +kernel
theorem dX7_best_7 : decode cX7_best 7 = .ok (.istore 4, 2) := by decide +kernel
theorem dX7_best_9 : decode cX7_best 9 = .ok (.iconst 0, 1) := by decide +kernel
theorem dX7_best_10 : decode cX7_best 10 = .ok (.istore 5, 2) := by decide +kernel
theorem dX7_best_12 : decode cX7_best 12 = .ok (.iload 5, 2) := by decide +kernel
theorem dX7_best_14 : decode cX7_best 14 = .ok (.aload_n 0, 1) := by decide +kernel
theorem dX7_best_15 : decode cX7_best 15 = .ok (.getfield 252, 3) := by decide +kernel
theorem dX7_best_18 : decode cX7_best 18 = .ok (.if_icmp .ge 67, 3) := by decide +kernel
theorem dX7_best_21 : decode cX7_best 21 = .ok (.iload 4, 2) := by decide +kernel
theorem dX7_best_23 : decode cX7_best 23 = .ok (.iconst (-1), 1) := by decide +kernel
theorem dX7_best_24 : decode cX7_best 24 = .ok (.if_icmp .eq 7, 3) := by decide +kernel
theorem dX7_best_27 : decode cX7_best 27 = .ok (.iload_n 2, 1) := by decide +kernel
theorem dX7_best_28 : decode cX7_best 28 = .ok (.ifCond .ne 7, 3) := by decide +kernel
theorem dX7_best_31 : decode cX7_best 31 = .ok (.iconst 1, 1) := by decide +kernel
theorem dX7_best_32 : decode cX7_best 32 = .ok (.goto 4, 3) := by decide +kernel
theorem dX7_best_35 : decode cX7_best 35 = .ok (.iconst 0, 1) := by decide +kernel
theorem dX7_best_36 : decode cX7_best 36 = .ok (.istore 6, 2) := by decide +kernel
theorem dX7_best_38 : decode cX7_best 38 = .ok (.iload 6, 2) := by decide +kernel
theorem dX7_best_40 : decode cX7_best 40 = .ok (.ifCond .eq 39, 3) := by decide +kernel
theorem dX7_best_43 : decode cX7_best 43 = .ok (.aload_n 0, 1) := by decide +kernel
theorem dX7_best_44 : decode cX7_best 44 = .ok (.getfield 11, 3) := by decide +kernel
theorem dX7_best_47 : decode cX7_best 47 = .ok (.iload 5, 2) := by decide +kernel
theorem dX7_best_49 : decode cX7_best 49 = .ok (.aaload, 1) := by decide +kernel
theorem dX7_best_50 : decode cX7_best 50 = .ok (.getfield 155, 3) := by decide +kernel
theorem dX7_best_53 : decode cX7_best 53 = .ok (.ifCond .eq 26, 3) := by decide +kernel
theorem dX7_best_56 : decode cX7_best 56 = .ok (.aload_n 3, 1) := by decide +kernel
theorem dX7_best_57 : decode cX7_best 57 = .ok (.aload_n 0, 1) := by decide +kernel
theorem dX7_best_58 : decode cX7_best 58 = .ok (.getfield 11, 3) := by decide +kernel
theorem dX7_best_61 : decode cX7_best 61 = .ok (.iload 5, 2) := by decide +kernel
theorem dX7_best_63 : decode cX7_best 63 = .ok (.aaload, 1) := by decide +kernel
theorem dX7_best_64 : decode cX7_best 64 = .ok (.iconst 0, 1) := by decide +kernel
theorem dX7_best_65 : decode cX7_best 65 = .ok (.invokevirtual 248, 3) := by decide +kernel
theorem dX7_best_68 : decode cX7_best 68 = .ok (.aload_n 3, 1) := by decide +kernel
theorem dX7_best_69 : decode cX7_best 69 = .ok (.getfield 196, 3) := by decide +kernel
theorem dX7_best_72 : decode cX7_best 72 = .ok (.if_icmp .ne 7, 3) := by decide +kernel
theorem dX7_best_75 : decode cX7_best 75 = .ok (.iload 5, 2) := by decide +kernel
theorem dX7_best_77 : decode cX7_best 77 = .ok (.istore 4, 2) := by decide +kernel
theorem dX7_best_79 : decode cX7_best 79 = .ok (.iinc 5 1, 3) := by decide +kernel
theorem dX7_best_82 : decode cX7_best 82 = .ok (.goto (-70), 3) := by decide +kernel
theorem dX7_best_85 : decode cX7_best 85 = .ok (.iload 4, 2) := by decide +kernel
theorem dX7_best_87 : decode cX7_best 87 = .ok (.ireturn, 1) := by decide +kernel
theorem dX7_differ_0 : decode cX7_differ 0 = .ok (.aload_n 0, 1) := by decide +kernel
theorem dX7_differ_1 : decode cX7_differ 1 = .ok (.iload_n 1, 1) := by decide +kernel
theorem dX7_differ_2 : decode cX7_differ 2 = .ok (.iload_n 2, 1) := by decide +kernel
theorem dX7_differ_3 : decode cX7_differ 3 = .ok (.invokevirtual 255, 3) := by decide +kernel
theorem dX7_differ_6 : decode cX7_differ 6 = .ok (.aload_n 0, 1) := by decide +kernel
theorem dX7_differ_7 : decode cX7_differ 7 = .ok (.getfield 24, 3) := by decide +kernel
theorem dX7_differ_10 : decode cX7_differ 10 = .ok (.aload_n 0, 1) := by decide +kernel
theorem dX7_differ_11 : decode cX7_differ 11 = .ok (.getfield 11, 3) := by decide +kernel
theorem dX7_differ_14 : decode cX7_differ 14 = .ok (.iload_n 1, 1) := by decide +kernel
theorem dX7_differ_15 : decode cX7_differ 15 = .ok (.aaload, 1) := by decide +kernel
theorem dX7_differ_16 : decode cX7_differ 16 = .ok (.aload_n 0, 1) := by decide +kernel
theorem dX7_differ_17 : decode cX7_differ 17 = .ok (.getfield 11, 3) := by decide +kernel
theorem dX7_differ_20 : decode cX7_differ 20 = .ok (.iload_n 2, 1) := by decide +kernel
theorem dX7_differ_21 : decode cX7_differ 21 = .ok (.aaload, 1) := by decide +kernel
theorem dX7_differ_22 : decode cX7_differ 22 = .ok (.invokevirtual 259, 3) := by decide +kernel
theorem dX7_differ_25 : decode cX7_differ 25 = .ok (.aload_n 0, 1) := by decide +kernel
theorem dX7_differ_26 : decode cX7_differ 26 = .ok (.getfield 24, 3) := by decide +kernel
theorem dX7_differ_29 : decode cX7_differ 29 = .ok (.getfield 263, 3) := by decide +kernel
theorem dX7_differ_32 : decode cX7_differ 32 = .ok (.ireturn, 1) := by decide +kernel
theorem dX7_difference_0 : decode cX7_difference 0 = .ok (.aload_n 0, 1) := by decide +kernel
theorem dX7_difference_1 : decode cX7_difference 1 = .ok (.iload_n 1, 1) := by decide +kernel
theorem dX7_difference_2 : decode cX7_difference 2 = .ok (.iload_n 2, 1) := by decide +kernel
theorem dX7_difference_3 : decode cX7_difference 3 = .ok (.invokevirtual 255, 3) := by decide +kernel
theorem dX7_difference_6 : decode cX7_difference 6 = .ok (.aload_n 0, 1) := by decide +kernel
theorem dX7_difference_7 : decode cX7_difference 7 = .ok (.getfield 24, 3) := by decide +kernel
theorem dX7_difference_10 : decode cX7_difference 10 = .ok (.aload_n 0, 1) := by decide +kernel
theorem dX7_difference_11 : decode cX7_difference 11 = .ok (.getfield 11, 3) := by decide +kernel
theorem dX7_difference_14 : decode cX7_difference 14 = .ok (.iload_n 1, 1) := by decide +kernel
theorem dX7_difference_15 : decode cX7_difference 15 = .ok (.aaload, 1) := by decide +kernel
theorem dX7_difference_16 : decode cX7_difference 16 = .ok (.aload_n 0, 1) := by decide +kernel
theorem dX7_difference_17 : decode cX7_difference 17 = .ok (.getfield 11, 3) := by decide +kernel
theorem dX7_difference_20 : decode cX7_difference 20 = .ok (.iload_n 2, 1) := by decide +kernel
theorem dX7_difference_21 : decode cX7_difference 21 = .ok (.aaload, 1) := by decide +kernel
theorem dX7_difference_22 : decode cX7_difference 22 = .ok (.invokevirtual 259, 3) := by decide +kernel
theorem dX7_difference_25 : decode cX7_difference 25 = .ok (.iload_n 3, 1) := by decide +kernel
theorem dX7_difference_26 : decode cX7_difference 26 = .ok (.aload_n 0, 1) := by decide +kernel
theorem dX7_difference_27 : decode cX7_difference 27 = .ok (.getfield 24, 3) := by decide +kernel
theorem dX7_difference_30 : decode cX7_difference 30 = .ok (.getfield 263, 3) := by decide +kernel
theorem dX7_difference_33 : decode cX7_difference 33 = .ok (.invokestatic 66, 3) := by decide +kernel
theorem dX7_difference_36 : decode cX7_difference 36 = .ok (.ifCond .eq 13, 3) := by decide +kernel
theorem dX7_difference_39 : decode cX7_difference 39 = .ok (.iload 4, 2) := by decide +kernel
theorem dX7_difference_41 : decode cX7_difference 41 = .ok (.bipush 6, 2) := by decide +kernel
theorem dX7_difference_43 : decode cX7_difference 43 = .ok (.invokestatic 66, 3) := by decide +kernel
theorem dX7_difference_46 : decode cX7_difference 46 = .ok (.ifCond .ne 14, 3) := by decide +kernel
theorem dX7_difference_49 : decode cX7_difference 49 = .ok (.new 266, 3) := by decide +kernel
theorem dX7_difference_52 : decode cX7_difference 52 = .ok (.dup, 1) := by decide +kernel
theorem dX7_difference_53 : decode cX7_difference 53 = .ok (.ldc_w 268, 3) := by decide +kernel
theorem dX7_difference_56 : decode cX7_difference 56 = .ok (.invokespecial 270, 3) := by decide +kernel
theorem dX7_difference_59 : decode cX7_difference 59 = .ok (.athrow, 1) := by decide +kernel
theorem dX7_difference_60 : decode cX7_difference 60 = .ok (.aload_n 0, 1) := by decide +kernel
theorem dX7_difference_61 : decode cX7_difference 61 = .ok (.getfield 24, 3) := by decide +kernel
theorem dX7_difference_64 : decode cX7_difference 64 = .ok (.iload_n 3, 1) := by decide +kernel
theorem dX7_difference_65 : decode cX7_difference 65 = .ok (.iload 4, 2) := by decide +kernel
theorem dX7_difference_67 : decode cX7_difference 67 = .ok (.invokevirtual 271, 3) := by decide +kernel
theorem dX7_difference_70 : decode cX7_difference 70 = .ok (.ireturn, 1) := by decide +kernel
theorem dX7_compatible_0 : decode cX7_compatible 0 = .ok (.aload_n 0, 1) := by decide +kernel
theorem dX7_compatible_1 : decode cX7_compatible 1 = .ok (.iload_n 1, 1) := by decide +kernel
theorem dX7_compatible_2 : decode cX7_compatible 2 = .ok (.iload_n 2, 1) := by decide +kernel
theorem dX7_compatible_3 : decode cX7_compatible 3 = .ok (.invokevirtual 255, 3) := by decide +kernel
theorem dX7_compatible_6 : decode cX7_compatible 6 = .ok (.iload_n 1, 1) := by decide +kernel
theorem dX7_compatible_7 : decode cX7_compatible 7 = .ok (.bipush 8, 2) := by decide +kernel
theorem dX7_compatible_9 : decode cX7_compatible 9 = .ok (.imul, 1) := by decide +kernel
theorem dX7_compatible_10 : decode cX7_compatible 10 = .ok (.iload_n 2, 1) := by decide +kernel
theorem dX7_compatible_11 : decode cX7_compatible 11 = .ok (.iadd, 1) := by decide +kernel
theorem dX7_compatible_12 : decode cX7_compatible 12 = .ok (.istore_n 3, 1) := by decide +kernel
theorem dX7_compatible_13 : decode cX7_compatible 13 = .ok (.aload_n 0, 1) := by decide +kernel
theorem dX7_compatible_14 : decode cX7_compatible 14 = .ok (.getfield 35, 3) := by decide +kernel
theorem dX7_compatible_17 : decode cX7_compatible 17 = .ok (.iload_n 3, 1) := by decide +kernel
theorem dX7_compatible_18 : decode cX7_compatible 18 = .ok (.iaload, 1) := by decide +kernel
theorem dX7_compatible_19 : decode cX7_compatible 19 = .ok (.ifCond .ne 36, 3) := by decide +kernel
theorem dX7_compatible_22 : decode cX7_compatible 22 = .ok (.aload_n 0, 1) := by decide +kernel
theorem dX7_compatible_23 : decode cX7_compatible 23 = .ok (.getfield 35, 3) := by decide +kernel
theorem dX7_compatible_26 : decode cX7_compatible 26 = .ok (.iload_n 3, 1) := by decide +kernel
theorem dX7_compatible_27 : decode cX7_compatible 27 = .ok (.aload_n 0, 1) := by decide +kernel
theorem dX7_compatible_28 : decode cX7_compatible 28 = .ok (.getfield 31, 3) := by decide +kernel
theorem dX7_compatible_31 : decode cX7_compatible 31 = .ok (.aload_n 0, 1) := by decide +kernel
theorem dX7_compatible_32 : decode cX7_compatible 32 = .ok (.getfield 11, 3) := by decide +kernel
theorem dX7_compatible_35 : decode cX7_compatible 35 = .ok (.iload_n 1, 1) := by decide +kernel
theorem dX7_compatible_36 : decode cX7_compatible 36 = .ok (.aaload, 1) := by decide +kernel
theorem dX7_compatible_37 : decode cX7_compatible 37 = .ok (.aload_n 0, 1) := by decide +kernel
theorem dX7_compatible_38 : decode cX7_compatible 38 = .ok (.getfield 11, 3) := by decide +kernel
theorem dX7_compatible_41 : decode cX7_compatible 41 = .ok (.iload_n 2, 1) := by decide +kernel
theorem dX7_compatible_42 : decode cX7_compatible 42 = .ok (.aaload, 1) := by decide +kernel
theorem dX7_compatible_43 : decode cX7_compatible 43 = .ok (.invokevirtual 274, 3) := by decide +kernel
theorem dX7_compatible_46 : decode cX7_compatible 46 = .ok (.ifCond .eq 7, 3) := by decide +kernel
theorem dX7_compatible_49 : decode cX7_compatible 49 = .ok (.iconst 2, 1) := by decide +kernel
theorem dX7_compatible_50 : decode cX7_compatible 50 = .ok (.goto 4, 3) := by decide +kernel
theorem dX7_compatible_53 : decode cX7_compatible 53 = .ok (.iconst 1, 1) := by decide +kernel
theorem dX7_compatible_54 : decode cX7_compatible 54 = .ok (.iastore, 1) := by decide +kernel
theorem dX7_compatible_55 : decode cX7_compatible 55 = .ok (.aload_n 0, 1) := by decide +kernel
theorem dX7_compatible_56 : decode cX7_compatible 56 = .ok (.getfield 35, 3) := by decide +kernel
theorem dX7_compatible_59 : decode cX7_compatible 59 = .ok (.iload_n 3, 1) := by decide +kernel
theorem dX7_compatible_60 : decode cX7_compatible 60 = .ok (.iaload, 1) := by decide +kernel
theorem dX7_compatible_61 : decode cX7_compatible 61 = .ok (.iconst 2, 1) := by decide +kernel
theorem dX7_compatible_62 : decode cX7_compatible 62 = .ok (.if_icmp .ne 7, 3) := by decide +kernel
theorem dX7_compatible_65 : decode cX7_compatible 65 = .ok (.iconst 1, 1) := by decide +kernel
theorem dX7_compatible_66 : decode cX7_compatible 66 = .ok (.goto 4, 3) := by decide +kernel
theorem dX7_compatible_69 : decode cX7_compatible 69 = .ok (.iconst 0, 1) := by decide +kernel
theorem dX7_compatible_70 : decode cX7_compatible 70 = .ok (.ireturn, 1) := by decide +kernel
theorem dX7_count_0 : decode cX7_count 0 = .ok (.iload_n 1, 1) := by decide +kernel
theorem dX7_count_1 : decode cX7_count 1 = .ok (.lookupswitch 37 #[(0, 27), (1, 32)], 27) := by decide +kernel
theorem dX7_count_28 : decode cX7_count 28 = .ok (.aload_n 0, 1) := by decide +kernel
theorem dX7_count_29 : decode cX7_count 29 = .ok (.getfield 252, 3) := by decide +kernel
theorem dX7_count_32 : decode cX7_count 32 = .ok (.ireturn, 1) := by decide +kernel
theorem dX7_count_33 : decode cX7_count 33 = .ok (.aload_n 0, 1) := by decide +kernel
theorem dX7_count_34 : decode cX7_count 34 = .ok (.getfield 181, 3) := by decide +kernel
theorem dX7_count_37 : decode cX7_count 37 = .ok (.ireturn, 1) := by decide +kernel
theorem dX7_count_38 : decode cX7_count 38 = .ok (.iconst (-1), 1) := by decide +kernel
theorem dX7_count_39 : decode cX7_count 39 = .ok (.ireturn, 1) := by decide +kernel
theorem dX7_look_0 : decode cX7_look 0 = .ok (.aload_n 0, 1) := by decide +kernel
theorem dX7_look_1 : decode cX7_look 1 = .ok (.iload_n 1, 1) := by decide +kernel
theorem dX7_look_2 : decode cX7_look 2 = .ok (.invokevirtual 220, 3) := by decide +kernel
theorem dX7_look_5 : decode cX7_look 5 = .ok (.astore_n 3, 1) := by decide +kernel
theorem dX7_look_6 : decode cX7_look 6 = .ok (.iload_n 2, 1) := by decide +kernel
theorem dX7_look_7 : decode cX7_look 7 = .ok (.tableswitch 48 0 2 #[25, 38, 43], 25) := by decide +kernel
theorem dX7_look_32 : decode cX7_look 32 = .ok (.aload_n 3, 1) := by decide +kernel
theorem dX7_look_33 : decode cX7_look 33 = .ok (.getfield 155, 3) := by decide +kernel
theorem dX7_look_36 : decode cX7_look 36 = .ok (.ifCond .eq 7, 3) := by decide +kernel
theorem dX7_look_39 : decode cX7_look 39 = .ok (.iconst 1, 1) := by decide +kernel
theorem dX7_look_40 : decode cX7_look 40 = .ok (.goto 4, 3) := by decide +kernel
theorem dX7_look_43 : decode cX7_look 43 = .ok (.iconst 0, 1) := by decide +kernel
theorem dX7_look_44 : decode cX7_look 44 = .ok (.ireturn, 1) := by decide +kernel
theorem dX7_look_45 : decode cX7_look 45 = .ok (.aload_n 3, 1) := by decide +kernel
theorem dX7_look_46 : decode cX7_look 46 = .ok (.getfield 85, 3) := by decide +kernel
theorem dX7_look_49 : decode cX7_look 49 = .ok (.ireturn, 1) := by decide +kernel
theorem dX7_look_50 : decode cX7_look 50 = .ok (.aload_n 3, 1) := by decide +kernel
theorem dX7_look_51 : decode cX7_look 51 = .ok (.invokevirtual 278, 3) := by decide +kernel
theorem dX7_look_54 : decode cX7_look 54 = .ok (.ireturn, 1) := by decide +kernel
theorem dX7_look_55 : decode cX7_look 55 = .ok (.iconst (-1), 1) := by decide +kernel
theorem dX7_look_56 : decode cX7_look 56 = .ok (.ireturn, 1) := by decide +kernel
theorem dX7_uses_0 : decode cX7_uses 0 = .ok (.aload_n 0, 1) := by decide +kernel
theorem dX7_uses_1 : decode cX7_uses 1 = .ok (.iload_n 1, 1) := by decide +kernel
theorem dX7_uses_2 : decode cX7_uses 2 = .ok (.invokevirtual 190, 3) := by decide +kernel
theorem dX7_uses_5 : decode cX7_uses 5 = .ok (.getfield 196, 3) := by decide +kernel
theorem dX7_uses_8 : decode cX7_uses 8 = .ok (.ireturn, 1) := by decide +kernel
theorem dX7_newEdition_0 : decode cX7_newEdition 0 = .ok (.aload_n 0, 1) := by decide +kernel
theorem dX7_newEdition_1 : decode cX7_newEdition 1 = .ok (.getfield 252, 3) := by decide +kernel
theorem dX7_newEdition_4 : decode cX7_newEdition 4 = .ok (.bipush 8, 2) := by decide +kernel
theorem dX7_newEdition_6 : decode cX7_newEdition 6 = .ok (.if_icmp .lt 14, 3) := by decide +kernel
theorem dX7_newEdition_9 : decode cX7_newEdition 9 = .ok (.new 88, 3) := by decide +kernel
theorem dX7_newEdition_12 : decode cX7_newEdition 12 = .ok (.dup, 1) := by decide +kernel
theorem dX7_newEdition_13 : decode cX7_newEdition 13 = .ok (.ldc_w 281, 3) := by decide +kernel
theorem dX7_newEdition_16 : decode cX7_newEdition 16 = .ok (.invokespecial 92, 3) := by decide +kernel
theorem dX7_newEdition_19 : decode cX7_newEdition 19 = .ok (.athrow, 1) := by decide +kernel
theorem dX7_newEdition_20 : decode cX7_newEdition 20 = .ok (.aload_n 0, 1) := by decide +kernel
theorem dX7_newEdition_21 : decode cX7_newEdition 21 = .ok (.dup, 1) := by decide +kernel
theorem dX7_newEdition_22 : decode cX7_newEdition 22 = .ok (.getfield 252, 3) := by decide +kernel
theorem dX7_newEdition_25 : decode cX7_newEdition 25 = .ok (.iconst 1, 1) := by decide +kernel
theorem dX7_newEdition_26 : decode cX7_newEdition 26 = .ok (.iadd, 1) := by decide +kernel
theorem dX7_newEdition_27 : decode cX7_newEdition 27 = .ok (.putfield 252, 3) := by decide +kernel
theorem dX7_newEdition_30 : decode cX7_newEdition 30 = .ok (.aload_n 0, 1) := by decide +kernel
theorem dX7_newEdition_31 : decode cX7_newEdition 31 = .ok (.getfield 11, 3) := by decide +kernel
theorem dX7_newEdition_34 : decode cX7_newEdition 34 = .ok (.aload_n 0, 1) := by decide +kernel
theorem dX7_newEdition_35 : decode cX7_newEdition 35 = .ok (.getfield 252, 3) := by decide +kernel
theorem dX7_newEdition_38 : decode cX7_newEdition 38 = .ok (.iconst 1, 1) := by decide +kernel
theorem dX7_newEdition_39 : decode cX7_newEdition 39 = .ok (.isub, 1) := by decide +kernel
theorem dX7_newEdition_40 : decode cX7_newEdition 40 = .ok (.aaload, 1) := by decide +kernel
theorem dX7_newEdition_41 : decode cX7_newEdition 41 = .ok (.areturn, 1) := by decide +kernel
theorem dX7_editionAt_0 : decode cX7_editionAt 0 = .ok (.iload_n 1, 1) := by decide +kernel
theorem dX7_editionAt_1 : decode cX7_editionAt 1 = .ok (.aload_n 0, 1) := by decide +kernel
theorem dX7_editionAt_2 : decode cX7_editionAt 2 = .ok (.getfield 252, 3) := by decide +kernel
theorem dX7_editionAt_5 : decode cX7_editionAt 5 = .ok (.invokestatic 66, 3) := by decide +kernel
theorem dX7_editionAt_8 : decode cX7_editionAt 8 = .ok (.ifCond .ne 14, 3) := by decide +kernel
theorem dX7_editionAt_11 : decode cX7_editionAt 11 = .ok (.new 283, 3) := by decide +kernel
theorem dX7_editionAt_14 : decode cX7_editionAt 14 = .ok (.dup, 1) := by decide +kernel
theorem dX7_editionAt_15 : decode cX7_editionAt 15 = .ok (.ldc_w 285, 3) := by decide +kernel
theorem dX7_editionAt_18 : decode cX7_editionAt 18 = .ok (.invokespecial 287, 3) := by decide +kernel
theorem dX7_editionAt_21 : decode cX7_editionAt 21 = .ok (.athrow, 1) := by decide +kernel
theorem dX7_editionAt_22 : decode cX7_editionAt 22 = .ok (.aload_n 0, 1) := by decide +kernel
theorem dX7_editionAt_23 : decode cX7_editionAt 23 = .ok (.getfield 11, 3) := by decide +kernel
theorem dX7_editionAt_26 : decode cX7_editionAt 26 = .ok (.iload_n 1, 1) := by decide +kernel
theorem dX7_editionAt_27 : decode cX7_editionAt 27 = .ok (.aaload, 1) := by decide +kernel
theorem dX7_editionAt_28 : decode cX7_editionAt 28 = .ok (.areturn, 1) := by decide +kernel
theorem dX7_openEdition_0 : decode cX7_openEdition 0 = .ok (.aload_n 0, 1) := by decide +kernel
theorem dX7_openEdition_1 : decode cX7_openEdition 1 = .ok (.iload_n 1, 1) := by decide +kernel
theorem dX7_openEdition_2 : decode cX7_openEdition 2 = .ok (.invokevirtual 220, 3) := by decide +kernel
theorem dX7_openEdition_5 : decode cX7_openEdition 5 = .ok (.astore_n 2, 1) := by decide +kernel
theorem dX7_openEdition_6 : decode cX7_openEdition 6 = .ok (.aload_n 2, 1) := by decide +kernel
theorem dX7_openEdition_7 : decode cX7_openEdition 7 = .ok (.getfield 155, 3) := by decide +kernel
theorem dX7_openEdition_10 : decode cX7_openEdition 10 = .ok (.ifCond .eq 14, 3) := by decide +kernel
theorem dX7_openEdition_13 : decode cX7_openEdition 13 = .ok (.new 288, 3) := by decide +kernel
theorem dX7_openEdition_16 : decode cX7_openEdition 16 = .ok (.dup, 1) := by decide +kernel
theorem dX7_openEdition_17 : decode cX7_openEdition 17 = .ok (.ldc_w 290, 3) := by decide +kernel
theorem dX7_openEdition_20 : decode cX7_openEdition 20 = .ok (.invokespecial 292, 3) := by decide +kernel
theorem dX7_openEdition_23 : decode cX7_openEdition 23 = .ok (.athrow, 1) := by decide +kernel
theorem dX7_openEdition_24 : decode cX7_openEdition 24 = .ok (.aload_n 2, 1) := by decide +kernel
theorem dX7_openEdition_25 : decode cX7_openEdition 25 = .ok (.areturn, 1) := by decide +kernel
theorem dX7_sealedEdition_0 : decode cX7_sealedEdition 0 = .ok (.aload_n 0, 1) := by decide +kernel
theorem dX7_sealedEdition_1 : decode cX7_sealedEdition 1 = .ok (.iload_n 1, 1) := by decide +kernel
theorem dX7_sealedEdition_2 : decode cX7_sealedEdition 2 = .ok (.invokevirtual 220, 3) := by decide +kernel
theorem dX7_sealedEdition_5 : decode cX7_sealedEdition 5 = .ok (.astore_n 2, 1) := by decide +kernel
theorem dX7_sealedEdition_6 : decode cX7_sealedEdition 6 = .ok (.aload_n 2, 1) := by decide +kernel
theorem dX7_sealedEdition_7 : decode cX7_sealedEdition 7 = .ok (.invokestatic 227, 3) := by decide +kernel
theorem dX7_sealedEdition_10 : decode cX7_sealedEdition 10 = .ok (.aload_n 2, 1) := by decide +kernel
theorem dX7_sealedEdition_11 : decode cX7_sealedEdition 11 = .ok (.areturn, 1) := by decide +kernel
theorem dX7_refuseOpen_0 : decode cX7_refuseOpen 0 = .ok (.aload_n 0, 1) := by decide +kernel
theorem dX7_refuseOpen_1 : decode cX7_refuseOpen 1 = .ok (.getfield 155, 3) := by decide +kernel
theorem dX7_refuseOpen_4 : decode cX7_refuseOpen 4 = .ok (.ifCond .ne 14, 3) := by decide +kernel
theorem dX7_refuseOpen_7 : decode cX7_refuseOpen 7 = .ok (.new 288, 3) := by decide +kernel
theorem dX7_refuseOpen_10 : decode cX7_refuseOpen 10 = .ok (.dup, 1) := by decide +kernel
theorem dX7_refuseOpen_11 : decode cX7_refuseOpen 11 = .ok (.ldc_w 293, 3) := by decide +kernel
theorem dX7_refuseOpen_14 : decode cX7_refuseOpen 14 = .ok (.invokespecial 292, 3) := by decide +kernel
theorem dX7_refuseOpen_17 : decode cX7_refuseOpen 17 = .ok (.athrow, 1) := by decide +kernel
theorem dX7_refuseOpen_18 : decode cX7_refuseOpen 18 = .ok (.return_, 1) := by decide +kernel
theorem dX7_refuseUnfitPair_0 : decode cX7_refuseUnfitPair 0 = .ok (.aload_n 0, 1) := by decide +kernel
theorem dX7_refuseUnfitPair_1 : decode cX7_refuseUnfitPair 1 = .ok (.iload_n 1, 1) := by decide +kernel
theorem dX7_refuseUnfitPair_2 : decode cX7_refuseUnfitPair 2 = .ok (.invokevirtual 220, 3) := by decide +kernel
theorem dX7_refuseUnfitPair_5 : decode cX7_refuseUnfitPair 5 = .ok (.astore_n 3, 1) := by decide +kernel
theorem dX7_refuseUnfitPair_6 : decode cX7_refuseUnfitPair 6 = .ok (.aload_n 0, 1) := by decide +kernel
theorem dX7_refuseUnfitPair_7 : decode cX7_refuseUnfitPair 7 = .ok (.iload_n 2, 1) := by decide +kernel
theorem dX7_refuseUnfitPair_8 : decode cX7_refuseUnfitPair 8 = .ok (.invokevirtual 220, 3) := by decide +kernel
theorem dX7_refuseUnfitPair_11 : decode cX7_refuseUnfitPair 11 = .ok (.astore 4, 2) := by decide +kernel
theorem dX7_refuseUnfitPair_13 : decode cX7_refuseUnfitPair 13 = .ok (.aload_n 3, 1) := by decide +kernel
theorem dX7_refuseUnfitPair_14 : decode cX7_refuseUnfitPair 14 = .ok (.invokestatic 227, 3) := by decide +kernel
theorem dX7_refuseUnfitPair_17 : decode cX7_refuseUnfitPair 17 = .ok (.aload 4, 2) := by decide +kernel
theorem dX7_refuseUnfitPair_19 : decode cX7_refuseUnfitPair 19 = .ok (.invokestatic 227, 3) := by decide +kernel
theorem dX7_refuseUnfitPair_22 : decode cX7_refuseUnfitPair 22 = .ok (.return_, 1) := by decide +kernel
theorem dX7_typeOf_0 : decode cX7_typeOf 0 = .ok (.aload_n 0, 1) := by decide +kernel
theorem dX7_typeOf_1 : decode cX7_typeOf 1 = .ok (.iload_n 1, 1) := by decide +kernel
theorem dX7_typeOf_2 : decode cX7_typeOf 2 = .ok (.invokevirtual 79, 3) := by decide +kernel
theorem dX7_typeOf_5 : decode cX7_typeOf 5 = .ok (.astore_n 2, 1) := by decide +kernel
theorem dX7_typeOf_6 : decode cX7_typeOf 6 = .ok (.aload_n 2, 1) := by decide +kernel
theorem dX7_typeOf_7 : decode cX7_typeOf 7 = .ok (.ifnonnull 14, 3) := by decide +kernel
theorem dX7_typeOf_10 : decode cX7_typeOf 10 = .ok (.new 70, 3) := by decide +kernel
theorem dX7_typeOf_13 : decode cX7_typeOf 13 = .ok (.dup, 1) := by decide +kernel
theorem dX7_typeOf_14 : decode cX7_typeOf 14 = .ok (.ldc_w 295, 3) := by decide +kernel
theorem dX7_typeOf_17 : decode cX7_typeOf 17 = .ok (.invokespecial 74, 3) := by decide +kernel
theorem dX7_typeOf_20 : decode cX7_typeOf 20 = .ok (.athrow, 1) := by decide +kernel
theorem dX7_typeOf_21 : decode cX7_typeOf 21 = .ok (.aload_n 2, 1) := by decide +kernel
theorem dX7_typeOf_22 : decode cX7_typeOf 22 = .ok (.areturn, 1) := by decide +kernel
theorem dX7_callerAt_0 : decode cX7_callerAt 0 = .ok (.iload_n 1, 1) := by decide +kernel
theorem dX7_callerAt_1 : decode cX7_callerAt 1 = .ok (.aload_n 0, 1) := by decide +kernel
theorem dX7_callerAt_2 : decode cX7_callerAt 2 = .ok (.getfield 181, 3) := by decide +kernel
theorem dX7_callerAt_5 : decode cX7_callerAt 5 = .ok (.invokestatic 66, 3) := by decide +kernel
theorem dX7_callerAt_8 : decode cX7_callerAt 8 = .ok (.ifCond .ne 14, 3) := by decide +kernel
theorem dX7_callerAt_11 : decode cX7_callerAt 11 = .ok (.new 283, 3) := by decide +kernel
theorem dX7_callerAt_14 : decode cX7_callerAt 14 = .ok (.dup, 1) := by decide +kernel
theorem dX7_callerAt_15 : decode cX7_callerAt 15 = .ok (.ldc_w 297, 3) := by decide +kernel
theorem dX7_callerAt_18 : decode cX7_callerAt 18 = .ok (.invokespecial 287, 3) := by decide +kernel
theorem dX7_callerAt_21 : decode cX7_callerAt 21 = .ok (.athrow, 1) := by decide +kernel
theorem dX7_callerAt_22 : decode cX7_callerAt 22 = .ok (.aload_n 0, 1) := by decide +kernel
theorem dX7_callerAt_23 : decode cX7_callerAt 23 = .ok (.getfield 17, 3) := by decide +kernel
theorem dX7_callerAt_26 : decode cX7_callerAt 26 = .ok (.iload_n 1, 1) := by decide +kernel
theorem dX7_callerAt_27 : decode cX7_callerAt 27 = .ok (.aaload, 1) := by decide +kernel
theorem dX7_callerAt_28 : decode cX7_callerAt 28 = .ok (.areturn, 1) := by decide +kernel
theorem dX7_useAt_0 : decode cX7_useAt 0 = .ok (.iload_n 1, 1) := by decide +kernel
theorem dX7_useAt_1 : decode cX7_useAt 1 = .ok (.aload_n 0, 1) := by decide +kernel
theorem dX7_useAt_2 : decode cX7_useAt 2 = .ok (.getfield 196, 3) := by decide +kernel
theorem dX7_useAt_5 : decode cX7_useAt 5 = .ok (.invokestatic 66, 3) := by decide +kernel
theorem dX7_useAt_8 : decode cX7_useAt 8 = .ok (.ifCond .ne 14, 3) := by decide +kernel
theorem dX7_useAt_11 : decode cX7_useAt 11 = .ok (.new 283, 3) := by decide +kernel
theorem dX7_useAt_14 : decode cX7_useAt 14 = .ok (.dup, 1) := by decide +kernel
theorem dX7_useAt_15 : decode cX7_useAt 15 = .ok (.ldc_w 299, 3) := by decide +kernel
theorem dX7_useAt_18 : decode cX7_useAt 18 = .ok (.invokespecial 287, 3) := by decide +kernel
theorem dX7_useAt_21 : decode cX7_useAt 21 = .ok (.athrow, 1) := by decide +kernel
theorem dX7_useAt_22 : decode cX7_useAt 22 = .ok (.aload_n 0, 1) := by decide +kernel
theorem dX7_useAt_23 : decode cX7_useAt 23 = .ok (.getfield 201, 3) := by decide +kernel
theorem dX7_useAt_26 : decode cX7_useAt 26 = .ok (.iload_n 1, 1) := by decide +kernel
theorem dX7_useAt_27 : decode cX7_useAt 27 = .ok (.aaload, 1) := by decide +kernel
theorem dX7_useAt_28 : decode cX7_useAt 28 = .ok (.areturn, 1) := by decide +kernel
theorem dX7_canBe_0 : decode cX7_canBe 0 = .ok (.iload_n 1, 1) := by decide +kernel
theorem dX7_canBe_1 : decode cX7_canBe 1 = .ok (.iconst 3, 1) := by decide +kernel
theorem dX7_canBe_2 : decode cX7_canBe 2 = .ok (.invokestatic 66, 3) := by decide +kernel
theorem dX7_canBe_5 : decode cX7_canBe 5 = .ok (.ifCond .eq 11, 3) := by decide +kernel
theorem dX7_canBe_8 : decode cX7_canBe 8 = .ok (.iload_n 2, 1) := by decide +kernel
theorem dX7_canBe_9 : decode cX7_canBe 9 = .ok (.iconst 4, 1) := by decide +kernel
theorem dX7_canBe_10 : decode cX7_canBe 10 = .ok (.invokestatic 66, 3) := by decide +kernel
theorem dX7_canBe_13 : decode cX7_canBe 13 = .ok (.ifCond .ne 5, 3) := by decide +kernel
theorem dX7_canBe_16 : decode cX7_canBe 16 = .ok (.iconst 0, 1) := by decide +kernel
theorem dX7_canBe_17 : decode cX7_canBe 17 = .ok (.ireturn, 1) := by decide +kernel
theorem dX7_canBe_18 : decode cX7_canBe 18 = .ok (.aload_n 0, 1) := by decide +kernel
theorem dX7_canBe_19 : decode cX7_canBe 19 = .ok (.getfield 301, 3) := by decide +kernel
theorem dX7_canBe_22 : decode cX7_canBe 22 = .ok (.ifCond .eq 19, 3) := by decide +kernel
theorem dX7_canBe_25 : decode cX7_canBe 25 = .ok (.iload_n 2, 1) := by decide +kernel
theorem dX7_canBe_26 : decode cX7_canBe 26 = .ok (.iconst 3, 1) := by decide +kernel
theorem dX7_canBe_27 : decode cX7_canBe 27 = .ok (.if_icmp .ne 12, 3) := by decide +kernel
theorem dX7_canBe_30 : decode cX7_canBe 30 = .ok (.iload_n 1, 1) := by decide +kernel
theorem dX7_canBe_31 : decode cX7_canBe 31 = .ok (.iconst 1, 1) := by decide +kernel
theorem dX7_canBe_32 : decode cX7_canBe 32 = .ok (.if_icmp .eq 9, 3) := by decide +kernel
theorem dX7_canBe_35 : decode cX7_canBe 35 = .ok (.iload_n 3, 1) := by decide +kernel
theorem dX7_canBe_36 : decode cX7_canBe 36 = .ok (.ifCond .ne 5, 3) := by decide +kernel
theorem dX7_canBe_39 : decode cX7_canBe 39 = .ok (.iconst 0, 1) := by decide +kernel
theorem dX7_canBe_40 : decode cX7_canBe 40 = .ok (.ireturn, 1) := by decide +kernel
theorem dX7_canBe_41 : decode cX7_canBe 41 = .ok (.iload_n 1, 1) := by decide +kernel
theorem dX7_canBe_42 : decode cX7_canBe 42 = .ok (.iconst 2, 1) := by decide +kernel
theorem dX7_canBe_43 : decode cX7_canBe 43 = .ok (.if_icmp .ne 9, 3) := by decide +kernel
theorem dX7_canBe_46 : decode cX7_canBe 46 = .ok (.iload_n 3, 1) := by decide +kernel
theorem dX7_canBe_47 : decode cX7_canBe 47 = .ok (.ifCond .ne 5, 3) := by decide +kernel
theorem dX7_canBe_50 : decode cX7_canBe 50 = .ok (.iconst 0, 1) := by decide +kernel
theorem dX7_canBe_51 : decode cX7_canBe 51 = .ok (.ireturn, 1) := by decide +kernel
theorem dX7_canBe_52 : decode cX7_canBe 52 = .ok (.iload_n 1, 1) := by decide +kernel
theorem dX7_canBe_53 : decode cX7_canBe 53 = .ok (.iconst 1, 1) := by decide +kernel
theorem dX7_canBe_54 : decode cX7_canBe 54 = .ok (.if_icmp .ne 23, 3) := by decide +kernel
theorem dX7_canBe_57 : decode cX7_canBe 57 = .ok (.iload 4, 2) := by decide +kernel
theorem dX7_canBe_59 : decode cX7_canBe 59 = .ok (.iconst (-1), 1) := by decide +kernel
theorem dX7_canBe_60 : decode cX7_canBe 60 = .ok (.if_icmp .ne 17, 3) := by decide +kernel
theorem dX7_canBe_63 : decode cX7_canBe 63 = .ok (.iload_n 3, 1) := by decide +kernel
theorem dX7_canBe_64 : decode cX7_canBe 64 = .ok (.ifCond .ne 11, 3) := by decide +kernel
theorem dX7_canBe_67 : decode cX7_canBe 67 = .ok (.iload_n 2, 1) := by decide +kernel
theorem dX7_canBe_68 : decode cX7_canBe 68 = .ok (.ifCond .eq 7, 3) := by decide +kernel
theorem dX7_canBe_71 : decode cX7_canBe 71 = .ok (.iconst 1, 1) := by decide +kernel
theorem dX7_canBe_72 : decode cX7_canBe 72 = .ok (.goto 4, 3) := by decide +kernel
theorem dX7_canBe_75 : decode cX7_canBe 75 = .ok (.iconst 0, 1) := by decide +kernel
theorem dX7_canBe_76 : decode cX7_canBe 76 = .ok (.ireturn, 1) := by decide +kernel
theorem dX7_canBe_77 : decode cX7_canBe 77 = .ok (.iload 4, 2) := by decide +kernel
theorem dX7_canBe_79 : decode cX7_canBe 79 = .ok (.bipush 10, 2) := by decide +kernel
theorem dX7_canBe_81 : decode cX7_canBe 81 = .ok (.invokestatic 66, 3) := by decide +kernel
theorem dX7_canBe_84 : decode cX7_canBe 84 = .ok (.ireturn, 1) := by decide +kernel
theorem dX7_isBelow_0 : decode cX7_isBelow 0 = .ok (.iload_n 0, 1) := by decide +kernel
theorem dX7_isBelow_1 : decode cX7_isBelow 1 = .ok (.ifCond .lt 12, 3) := by decide +kernel
theorem dX7_isBelow_4 : decode cX7_isBelow 4 = .ok (.iload_n 0, 1) := by decide +kernel
theorem dX7_isBelow_5 : decode cX7_isBelow 5 = .ok (.iload_n 1, 1) := by decide +kernel
theorem dX7_isBelow_6 : decode cX7_isBelow 6 = .ok (.if_icmp .ge 7, 3) := by decide +kernel
theorem dX7_isBelow_9 : decode cX7_isBelow 9 = .ok (.iconst 1, 1) := by decide +kernel
theorem dX7_isBelow_10 : decode cX7_isBelow 10 = .ok (.goto 4, 3) := by decide +kernel
theorem dX7_isBelow_13 : decode cX7_isBelow 13 = .ok (.iconst 0, 1) := by decide +kernel
theorem dX7_isBelow_14 : decode cX7_isBelow 14 = .ok (.ireturn, 1) := by decide +kernel
theorem dX7_isName_0 : decode cX7_isName 0 = .ok (.iload_n 0, 1) := by decide +kernel
theorem dX7_isName_1 : decode cX7_isName 1 = .ok (.bipush 16, 2) := by decide +kernel
theorem dX7_isName_3 : decode cX7_isName 3 = .ok (.invokestatic 66, 3) := by decide +kernel
theorem dX7_isName_6 : decode cX7_isName 6 = .ok (.ireturn, 1) := by decide +kernel
theorem dX7_keyOf_0 : decode cX7_keyOf 0 = .ok (.iload_n 0, 1) := by decide +kernel
theorem dX7_keyOf_1 : decode cX7_keyOf 1 = .ok (.invokestatic 62, 3) := by decide +kernel
theorem dX7_keyOf_4 : decode cX7_keyOf 4 = .ok (.ifCond .eq 19, 3) := by decide +kernel
theorem dX7_keyOf_7 : decode cX7_keyOf 7 = .ok (.iload_n 1, 1) := by decide +kernel
theorem dX7_keyOf_8 : decode cX7_keyOf 8 = .ok (.iconst 4, 1) := by decide +kernel
theorem dX7_keyOf_9 : decode cX7_keyOf 9 = .ok (.invokestatic 66, 3) := by decide +kernel
theorem dX7_keyOf_12 : decode cX7_keyOf 12 = .ok (.ifCond .eq 11, 3) := by decide +kernel
theorem dX7_keyOf_15 : decode cX7_keyOf 15 = .ok (.iload_n 0, 1) := by decide +kernel
theorem dX7_keyOf_16 : decode cX7_keyOf 16 = .ok (.iconst 4, 1) := by decide +kernel
theorem dX7_keyOf_17 : decode cX7_keyOf 17 = .ok (.imul, 1) := by decide +kernel
theorem dX7_keyOf_18 : decode cX7_keyOf 18 = .ok (.iload_n 1, 1) := by decide +kernel
theorem dX7_keyOf_19 : decode cX7_keyOf 19 = .ok (.iadd, 1) := by decide +kernel
theorem dX7_keyOf_20 : decode cX7_keyOf 20 = .ok (.goto 4, 3) := by decide +kernel
theorem dX7_keyOf_23 : decode cX7_keyOf 23 = .ok (.iconst (-1), 1) := by decide +kernel
theorem dX7_keyOf_24 : decode cX7_keyOf 24 = .ok (.ireturn, 1) := by decide +kernel
theorem dX7_hasBit_0 : decode cX7_hasBit 0 = .ok (.lload_n 0, 1) := by decide +kernel
theorem dX7_hasBit_1 : decode cX7_hasBit 1 = .ok (.iload_n 2, 1) := by decide +kernel
theorem dX7_hasBit_2 : decode cX7_hasBit 2 = .ok (.lushr, 1) := by decide +kernel
theorem dX7_hasBit_3 : decode cX7_hasBit 3 = .ok (.lconst 1, 1) := by decide +kernel
theorem dX7_hasBit_4 : decode cX7_hasBit 4 = .ok (.land, 1) := by decide +kernel
theorem dX7_hasBit_5 : decode cX7_hasBit 5 = .ok (.lconst 0, 1) := by decide +kernel
theorem dX7_hasBit_6 : decode cX7_hasBit 6 = .ok (.lcmp, 1) := by decide +kernel
theorem dX7_hasBit_7 : decode cX7_hasBit 7 = .ok (.ifCond .eq 7, 3) := by decide +kernel
theorem dX7_hasBit_10 : decode cX7_hasBit 10 = .ok (.iconst 1, 1) := by decide +kernel
theorem dX7_hasBit_11 : decode cX7_hasBit 11 = .ok (.goto 4, 3) := by decide +kernel
theorem dX7_hasBit_14 : decode cX7_hasBit 14 = .ok (.iconst 0, 1) := by decide +kernel
theorem dX7_hasBit_15 : decode cX7_hasBit 15 = .ok (.ireturn, 1) := by decide +kernel
theorem dX7_nameOf_0 : decode cX7_nameOf 0 = .ok (.aload_n 0, 1) := by decide +kernel
theorem dX7_nameOf_1 : decode cX7_nameOf 1 = .ok (.ifnonnull 7, 3) := by decide +kernel
theorem dX7_nameOf_4 : decode cX7_nameOf 4 = .ok (.iconst (-1), 1) := by decide +kernel
theorem dX7_nameOf_5 : decode cX7_nameOf 5 = .ok (.goto 7, 3) := by decide +kernel
theorem dX7_nameOf_8 : decode cX7_nameOf 8 = .ok (.aload_n 0, 1) := by decide +kernel
theorem dX7_nameOf_9 : decode cX7_nameOf 9 = .ok (.getfield 304, 3) := by decide +kernel
theorem dX7_nameOf_12 : decode cX7_nameOf 12 = .ok (.ireturn, 1) := by decide +kernel
