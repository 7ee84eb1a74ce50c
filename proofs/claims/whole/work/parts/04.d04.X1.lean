theorem dX1_init_0 : decode cX1_init 0 = .ok (.aload_n 0, 1) := by decide +kernel
theorem dX1_init_1 : decode cX1_init 1 = .ok (.invokespecial 3, 3) := by decide +kernel
theorem dX1_init_4 : decode cX1_init 4 = .ok (.aload_n 0, 1) := by decide +kernel
theorem dX1_init_5 : decode cX1_init 5 = .ok (.iconst (-1), 1) := by decide +kernel
theorem dX1_init_6 : decode cX1_init 6 = .ok (.putfield 9, 3) := by decide +kernel
theorem dX1_init_9 : decode cX1_init 9 = .ok (.aload_n 0, 1) := by decide +kernel
theorem dX1_init_10 : decode cX1_init 10 = .ok (.iconst (-1), 1) := by decide +kernel
theorem dX1_init_11 : decode cX1_init 11 = .ok (.putfield 15, 3) := by decide +kernel
theorem dX1_init_14 : decode cX1_init 14 = .ok (.aload_n 0, 1) := by decide +kernel
theorem dX1_init_15 : decode cX1_init 15 = .ok (.sipush 230, 3) := by decide +kernel
theorem dX1_init_18 : decode cX1_init 18 = .ok (.newarray .int, 2) := by decide +kernel
theorem dX1_init_20 : decode cX1_init 20 = .ok (.putfield 18, 3) := by decide +kernel
theorem dX1_init_23 : decode cX1_init 23 = .ok (.aload_n 0, 1) := by decide +kernel
theorem dX1_init_24 : decode cX1_init 24 = .ok (.sipush 230, 3) := by decide +kernel
theorem dX1_init_27 : decode cX1_init 27 = .ok (.newarray .int, 2) := by decide +kernel
theorem dX1_init_29 : decode cX1_init 29 = .ok (.putfield 22, 3) := by decide +kernel
theorem dX1_init_32 : decode cX1_init 32 = .ok (.aload_n 0, 1) := by decide +kernel
theorem dX1_init_33 : decode cX1_init 33 = .ok (.sipush 230, 3) := by decide +kernel
theorem dX1_init_36 : decode cX1_init 36 = .ok (.newarray .int, 2) := by decide +kernel
theorem dX1_init_38 : decode cX1_init 38 = .ok (.putfield 25, 3) := by decide +kernel
theorem dX1_init_41 : decode cX1_init 41 = .ok (.aload_n 0, 1) := by decide +kernel
theorem dX1_init_42 : decode cX1_init 42 = .ok (.sipush 230, 3) := by decide +kernel
theorem dX1_init_45 : decode cX1_init 45 = .ok (.newarray .int, 2) := by decide +kernel
theorem dX1_init_47 : decode cX1_init 47 = .ok (.putfield 28, 3) := by decide +kernel
theorem dX1_init_50 : decode cX1_init 50 = .ok (.aload_n 0, 1) := by decide +kernel
theorem dX1_init_51 : decode cX1_init 51 = .ok (.sipush 230, 3) := by decide +kernel
theorem dX1_init_54 : decode cX1_init 54 = .ok (.newarray .boolean, 2) := by decide +kernel
theorem dX1_init_56 : decode cX1_init 56 = .ok (.putfield 31, 3) := by decide +kernel
theorem dX1_init_59 : decode cX1_init 59 = .ok (.aload_n 0, 1) := by decide +kernel
theorem dX1_init_60 : decode cX1_init 60 = .ok (.sipush 2048, 3) := by decide +kernel
theorem dX1_init_63 : decode cX1_init 63 = .ok (.newarray .int, 2) := by decide +kernel
theorem dX1_init_65 : decode cX1_init 65 = .ok (.putfield 35, 3) := by decide +kernel
theorem dX1_init_68 : decode cX1_init 68 = .ok (.aload_n 0, 1) := by decide +kernel
theorem dX1_init_69 : decode cX1_init 69 = .ok (.bipush 32, 2) := by decide +kernel
theorem dX1_init_71 : decode cX1_init 71 = .ok (.newarray .long, 2) := by decide +kernel
theorem dX1_init_73 : decode cX1_init 73 = .ok (.putfield 38, 3) := by decide +kernel
theorem dX1_init_76 : decode cX1_init 76 = .ok (.return_, 1) := by decide +kernel
theorem dX1_compare_0 : decode cX1_compare 0 = .ok (.aload_n 0, 1) := by decide +kernel
theorem dX1_compare_1 : decode cX1_compare 1 = .ok (.getfield 9, 3) := by decide +kernel
theorem dX1_compare_4 : decode cX1_compare 4 = .ok (.aload_n 1, 1) := by decide +kernel
theorem dX1_compare_5 : decode cX1_compare 5 = .ok (.getfield 42, 3) := by decide +kernel
theorem dX1_compare_8 : decode cX1_compare 8 = .ok (.if_icmp .ne 15, 3) := by decide +kernel
theorem dX1_compare_11 : decode cX1_compare 11 = .ok (.aload_n 0, 1) := by decide +kernel
theorem dX1_compare_12 : decode cX1_compare 12 = .ok (.getfield 15, 3) := by decide +kernel
theorem dX1_compare_15 : decode cX1_compare 15 = .ok (.aload_n 2, 1) := by decide +kernel
theorem dX1_compare_16 : decode cX1_compare 16 = .ok (.getfield 42, 3) := by decide +kernel
theorem dX1_compare_19 : decode cX1_compare 19 = .ok (.if_icmp .ne 4, 3) := by decide +kernel
theorem dX1_compare_22 : decode cX1_compare 22 = .ok (.return_, 1) := by decide +kernel
theorem dX1_compare_23 : decode cX1_compare 23 = .ok (.aload_n 0, 1) := by decide +kernel
theorem dX1_compare_24 : decode cX1_compare 24 = .ok (.aload_n 1, 1) := by decide +kernel
theorem dX1_compare_25 : decode cX1_compare 25 = .ok (.getfield 42, 3) := by decide +kernel
theorem dX1_compare_28 : decode cX1_compare 28 = .ok (.putfield 9, 3) := by decide +kernel
theorem dX1_compare_31 : decode cX1_compare 31 = .ok (.aload_n 0, 1) := by decide +kernel
theorem dX1_compare_32 : decode cX1_compare 32 = .ok (.aload_n 2, 1) := by decide +kernel
theorem dX1_compare_33 : decode cX1_compare 33 = .ok (.getfield 42, 3) := by decide +kernel
theorem dX1_compare_36 : decode cX1_compare 36 = .ok (.putfield 15, 3) := by decide +kernel
theorem dX1_compare_39 : decode cX1_compare 39 = .ok (.aload_n 0, 1) := by decide +kernel
theorem dX1_compare_40 : decode cX1_compare 40 = .ok (.iconst 0, 1) := by decide +kernel
theorem dX1_compare_41 : decode cX1_compare 41 = .ok (.putfield 47, 3) := by decide +kernel
theorem dX1_compare_44 : decode cX1_compare 44 = .ok (.aload_n 0, 1) := by decide +kernel
theorem dX1_compare_45 : decode cX1_compare 45 = .ok (.getfield 35, 3) := by decide +kernel
theorem dX1_compare_48 : decode cX1_compare 48 = .ok (.iconst (-1), 1) := by decide +kernel
theorem dX1_compare_49 : decode cX1_compare 49 = .ok (.invokestatic 50, 3) := by decide +kernel
theorem dX1_compare_52 : decode cX1_compare 52 = .ok (.aload_n 0, 1) := by decide +kernel
theorem dX1_compare_53 : decode cX1_compare 53 = .ok (.getfield 38, 3) := by decide +kernel
theorem dX1_compare_56 : decode cX1_compare 56 = .ok (.lconst 0, 1) := by decide +kernel
theorem dX1_compare_57 : decode cX1_compare 57 = .ok (.invokestatic 56, 3) := by decide +kernel
theorem dX1_compare_60 : decode cX1_compare 60 = .ok (.iconst 0, 1) := by decide +kernel
theorem dX1_compare_61 : decode cX1_compare 61 = .ok (.istore_n 3, 1) := by decide +kernel
theorem dX1_compare_62 : decode cX1_compare 62 = .ok (.iload_n 3, 1) := by decide +kernel
theorem dX1_compare_63 : decode cX1_compare 63 = .ok (.bipush 16, 2) := by decide +kernel
theorem dX1_compare_65 : decode cX1_compare 65 = .ok (.if_icmp .ge 39, 3) := by decide +kernel
theorem dX1_compare_68 : decode cX1_compare 68 = .ok (.aload_n 1, 1) := by decide +kernel
theorem dX1_compare_69 : decode cX1_compare 69 = .ok (.iload_n 3, 1) := by decide +kernel
theorem dX1_compare_70 : decode cX1_compare 70 = .ok (.invokevirtual 59, 3) := by decide +kernel
theorem dX1_compare_73 : decode cX1_compare 73 = .ok (.astore 4, 2) := by decide +kernel
theorem dX1_compare_75 : decode cX1_compare 75 = .ok (.aload 4, 2) := by decide +kernel
theorem dX1_compare_77 : decode cX1_compare 77 = .ok (.ifnull 21, 3) := by decide +kernel
theorem dX1_compare_80 : decode cX1_compare 80 = .ok (.aload_n 0, 1) := by decide +kernel
theorem dX1_compare_81 : decode cX1_compare 81 = .ok (.aload_n 1, 1) := by decide +kernel
theorem dX1_compare_82 : decode cX1_compare 82 = .ok (.aload_n 2, 1) := by decide +kernel
theorem dX1_compare_83 : decode cX1_compare 83 = .ok (.aload 4, 2) := by decide +kernel
theorem dX1_compare_85 : decode cX1_compare 85 = .ok (.iconst 0, 1) := by decide +kernel
theorem dX1_compare_86 : decode cX1_compare 86 = .ok (.invokevirtual 63, 3) := by decide +kernel
theorem dX1_compare_89 : decode cX1_compare 89 = .ok (.aload_n 0, 1) := by decide +kernel
theorem dX1_compare_90 : decode cX1_compare 90 = .ok (.aload_n 1, 1) := by decide +kernel
theorem dX1_compare_91 : decode cX1_compare 91 = .ok (.aload_n 2, 1) := by decide +kernel
theorem dX1_compare_92 : decode cX1_compare 92 = .ok (.aload 4, 2) := by decide +kernel
theorem dX1_compare_94 : decode cX1_compare 94 = .ok (.iconst 1, 1) := by decide +kernel
theorem dX1_compare_95 : decode cX1_compare 95 = .ok (.invokevirtual 63, 3) := by decide +kernel
theorem dX1_compare_98 : decode cX1_compare 98 = .ok (.iinc 3 1, 3) := by decide +kernel
theorem dX1_compare_101 : decode cX1_compare 101 = .ok (.goto (-39), 3) := by decide +kernel
theorem dX1_compare_104 : decode cX1_compare 104 = .ok (.iconst 0, 1) := by decide +kernel
theorem dX1_compare_105 : decode cX1_compare 105 = .ok (.istore_n 3, 1) := by decide +kernel
theorem dX1_compare_106 : decode cX1_compare 106 = .ok (.iload_n 3, 1) := by decide +kernel
theorem dX1_compare_107 : decode cX1_compare 107 = .ok (.bipush 16, 2) := by decide +kernel
theorem dX1_compare_109 : decode cX1_compare 109 = .ok (.if_icmp .ge 23, 3) := by decide +kernel
theorem dX1_compare_112 : decode cX1_compare 112 = .ok (.aload_n 0, 1) := by decide +kernel
theorem dX1_compare_113 : decode cX1_compare 113 = .ok (.aload_n 1, 1) := by decide +kernel
theorem dX1_compare_114 : decode cX1_compare 114 = .ok (.iload_n 3, 1) := by decide +kernel
theorem dX1_compare_115 : decode cX1_compare 115 = .ok (.invokevirtual 59, 3) := by decide +kernel
theorem dX1_compare_118 : decode cX1_compare 118 = .ok (.aload_n 2, 1) := by decide +kernel
theorem dX1_compare_119 : decode cX1_compare 119 = .ok (.iload_n 3, 1) := by decide +kernel
theorem dX1_compare_120 : decode cX1_compare 120 = .ok (.invokevirtual 59, 3) := by decide +kernel
theorem dX1_compare_123 : decode cX1_compare 123 = .ok (.invokevirtual 67, 3) := by decide +kernel
theorem dX1_compare_126 : decode cX1_compare 126 = .ok (.iinc 3 1, 3) := by decide +kernel
theorem dX1_compare_129 : decode cX1_compare 129 = .ok (.goto (-23), 3) := by decide +kernel
theorem dX1_compare_132 : decode cX1_compare 132 = .ok (.return_, 1) := by decide +kernel
theorem dX1_cell_0 : decode cX1_cell 0 = .ok (.iload_n 2, 1) := by decide +kernel
theorem dX1_cell_1 : decode cX1_cell 1 = .ok (.tableswitch 102 0 4 #[35, 42, 49, 72, 95], 35) := by decide +kernel
theorem dX1_cell_36 : decode cX1_cell 36 = .ok (.aload_n 0, 1) := by decide +kernel
theorem dX1_cell_37 : decode cX1_cell 37 = .ok (.getfield 18, 3) := by decide +kernel
theorem dX1_cell_40 : decode cX1_cell 40 = .ok (.iload_n 1, 1) := by decide +kernel
theorem dX1_cell_41 : decode cX1_cell 41 = .ok (.iaload, 1) := by decide +kernel
theorem dX1_cell_42 : decode cX1_cell 42 = .ok (.ireturn, 1) := by decide +kernel
theorem dX1_cell_43 : decode cX1_cell 43 = .ok (.aload_n 0, 1) := by decide +kernel
theorem dX1_cell_44 : decode cX1_cell 44 = .ok (.getfield 22, 3) := by decide +kernel
theorem dX1_cell_47 : decode cX1_cell 47 = .ok (.iload_n 1, 1) := by decide +kernel
theorem dX1_cell_48 : decode cX1_cell 48 = .ok (.iaload, 1) := by decide +kernel
theorem dX1_cell_49 : decode cX1_cell 49 = .ok (.ireturn, 1) := by decide +kernel
theorem dX1_cell_50 : decode cX1_cell 50 = .ok (.aload_n 0, 1) := by decide +kernel
theorem dX1_cell_51 : decode cX1_cell 51 = .ok (.getfield 25, 3) := by decide +kernel
theorem dX1_cell_54 : decode cX1_cell 54 = .ok (.iload_n 1, 1) := by decide +kernel
theorem dX1_cell_55 : decode cX1_cell 55 = .ok (.iaload, 1) := by decide +kernel
theorem dX1_cell_56 : decode cX1_cell 56 = .ok (.iconst (-1), 1) := by decide +kernel
theorem dX1_cell_57 : decode cX1_cell 57 = .ok (.if_icmp .ne 7, 3) := by decide +kernel
theorem dX1_cell_60 : decode cX1_cell 60 = .ok (.iconst (-1), 1) := by decide +kernel
theorem dX1_cell_61 : decode cX1_cell 61 = .ok (.goto 11, 3) := by decide +kernel
theorem dX1_cell_64 : decode cX1_cell 64 = .ok (.aload_n 0, 1) := by decide +kernel
theorem dX1_cell_65 : decode cX1_cell 65 = .ok (.getfield 25, 3) := by decide +kernel
theorem dX1_cell_68 : decode cX1_cell 68 = .ok (.iload_n 1, 1) := by decide +kernel
theorem dX1_cell_69 : decode cX1_cell 69 = .ok (.iaload, 1) := by decide +kernel
theorem dX1_cell_70 : decode cX1_cell 70 = .ok (.iconst 4, 1) := by decide +kernel
theorem dX1_cell_71 : decode cX1_cell 71 = .ok (.idiv, 1) := by decide +kernel
theorem dX1_cell_72 : decode cX1_cell 72 = .ok (.ireturn, 1) := by decide +kernel
theorem dX1_cell_73 : decode cX1_cell 73 = .ok (.aload_n 0, 1) := by decide +kernel
theorem dX1_cell_74 : decode cX1_cell 74 = .ok (.getfield 25, 3) := by decide +kernel
theorem dX1_cell_77 : decode cX1_cell 77 = .ok (.iload_n 1, 1) := by decide +kernel
theorem dX1_cell_78 : decode cX1_cell 78 = .ok (.iaload, 1) := by decide +kernel
theorem dX1_cell_79 : decode cX1_cell 79 = .ok (.iconst (-1), 1) := by decide +kernel
theorem dX1_cell_80 : decode cX1_cell 80 = .ok (.if_icmp .ne 7, 3) := by decide +kernel
theorem dX1_cell_83 : decode cX1_cell 83 = .ok (.iconst (-1), 1) := by decide +kernel
theorem dX1_cell_84 : decode cX1_cell 84 = .ok (.goto 11, 3) := by decide +kernel
theorem dX1_cell_87 : decode cX1_cell 87 = .ok (.aload_n 0, 1) := by decide +kernel
theorem dX1_cell_88 : decode cX1_cell 88 = .ok (.getfield 25, 3) := by decide +kernel
theorem dX1_cell_91 : decode cX1_cell 91 = .ok (.iload_n 1, 1) := by decide +kernel
theorem dX1_cell_92 : decode cX1_cell 92 = .ok (.iaload, 1) := by decide +kernel
theorem dX1_cell_93 : decode cX1_cell 93 = .ok (.iconst 4, 1) := by decide +kernel
theorem dX1_cell_94 : decode cX1_cell 94 = .ok (.irem, 1) := by decide +kernel
theorem dX1_cell_95 : decode cX1_cell 95 = .ok (.ireturn, 1) := by decide +kernel
theorem dX1_cell_96 : decode cX1_cell 96 = .ok (.aload_n 0, 1) := by decide +kernel
theorem dX1_cell_97 : decode cX1_cell 97 = .ok (.getfield 28, 3) := by decide +kernel
theorem dX1_cell_100 : decode cX1_cell 100 = .ok (.iload_n 1, 1) := by decide +kernel
theorem dX1_cell_101 : decode cX1_cell 101 = .ok (.iaload, 1) := by decide +kernel
theorem dX1_cell_102 : decode cX1_cell 102 = .ok (.ireturn, 1) := by decide +kernel
theorem dX1_cell_103 : decode cX1_cell 103 = .ok (.aload_n 0, 1) := by decide +kernel
theorem dX1_cell_104 : decode cX1_cell 104 = .ok (.getfield 31, 3) := by decide +kernel
theorem dX1_cell_107 : decode cX1_cell 107 = .ok (.iload_n 1, 1) := by decide +kernel
theorem dX1_cell_108 : decode cX1_cell 108 = .ok (.baload, 1) := by decide +kernel
theorem dX1_cell_109 : decode cX1_cell 109 = .ok (.ifCond .eq 7, 3) := by decide +kernel
theorem dX1_cell_112 : decode cX1_cell 112 = .ok (.iconst 1, 1) := by decide +kernel
theorem dX1_cell_113 : decode cX1_cell 113 = .ok (.goto 4, 3) := by decide +kernel
theorem dX1_cell_116 : decode cX1_cell 116 = .ok (.iconst 0, 1) := by decide +kernel
theorem dX1_cell_117 : decode cX1_cell 117 = .ok (.ireturn, 1) := by decide +kernel
theorem dX1_rowOf_0 : decode cX1_rowOf 0 = .ok (.iload_n 0, 1) := by decide +kernel
theorem dX1_rowOf_1 : decode cX1_rowOf 1 = .ok (.iconst 2, 1) := by decide +kernel
theorem dX1_rowOf_2 : decode cX1_rowOf 2 = .ok (.imul, 1) := by decide +kernel
theorem dX1_rowOf_3 : decode cX1_rowOf 3 = .ok (.iload_n 1, 1) := by decide +kernel
theorem dX1_rowOf_4 : decode cX1_rowOf 4 = .ok (.ifCond .eq 7, 3) := by decide +kernel
theorem dX1_rowOf_7 : decode cX1_rowOf 7 = .ok (.iconst 1, 1) := by decide +kernel
theorem dX1_rowOf_8 : decode cX1_rowOf 8 = .ok (.goto 4, 3) := by decide +kernel
theorem dX1_rowOf_11 : decode cX1_rowOf 11 = .ok (.iconst 0, 1) := by decide +kernel
theorem dX1_rowOf_12 : decode cX1_rowOf 12 = .ok (.iadd, 1) := by decide +kernel
theorem dX1_rowOf_13 : decode cX1_rowOf 13 = .ok (.ireturn, 1) := by decide +kernel
theorem dX1_spotOf_0 : decode cX1_spotOf 0 = .ok (.iload_n 0, 1) := by decide +kernel
theorem dX1_spotOf_1 : decode cX1_spotOf 1 = .ok (.iload_n 1, 1) := by decide +kernel
theorem dX1_spotOf_2 : decode cX1_spotOf 2 = .ok (.invokestatic 71, 3) := by decide +kernel
theorem dX1_spotOf_5 : decode cX1_spotOf 5 = .ok (.bipush 64, 2) := by decide +kernel
theorem dX1_spotOf_7 : decode cX1_spotOf 7 = .ok (.imul, 1) := by decide +kernel
theorem dX1_spotOf_8 : decode cX1_spotOf 8 = .ok (.iload_n 2, 1) := by decide +kernel
theorem dX1_spotOf_9 : decode cX1_spotOf 9 = .ok (.iadd, 1) := by decide +kernel
theorem dX1_spotOf_10 : decode cX1_spotOf 10 = .ok (.ireturn, 1) := by decide +kernel
theorem dX1_takeMoves_0 : decode cX1_takeMoves 0 = .ok (.aload_n 2, 1) := by decide +kernel
theorem dX1_takeMoves_1 : decode cX1_takeMoves 1 = .ok (.aload_n 3, 1) := by decide +kernel
theorem dX1_takeMoves_2 : decode cX1_takeMoves 2 = .ok (.getfield 75, 3) := by decide +kernel
theorem dX1_takeMoves_5 : decode cX1_takeMoves 5 = .ok (.invokevirtual 59, 3) := by decide +kernel
theorem dX1_takeMoves_8 : decode cX1_takeMoves 8 = .ok (.astore 5, 2) := by decide +kernel
theorem dX1_takeMoves_10 : decode cX1_takeMoves 10 = .ok (.aload_n 3, 1) := by decide +kernel
theorem dX1_takeMoves_11 : decode cX1_takeMoves 11 = .ok (.iload 4, 2) := by decide +kernel
theorem dX1_takeMoves_13 : decode cX1_takeMoves 13 = .ok (.invokevirtual 80, 3) := by decide +kernel
theorem dX1_takeMoves_16 : decode cX1_takeMoves 16 = .ok (.aload 5, 2) := by decide +kernel
theorem dX1_takeMoves_18 : decode cX1_takeMoves 18 = .ok (.ifnonnull 7, 3) := by decide +kernel
theorem dX1_takeMoves_21 : decode cX1_takeMoves 21 = .ok (.lconst 0, 1) := by decide +kernel
theorem dX1_takeMoves_22 : decode cX1_takeMoves 22 = .ok (.goto 10, 3) := by decide +kernel
theorem dX1_takeMoves_25 : decode cX1_takeMoves 25 = .ok (.aload 5, 2) := by decide +kernel
theorem dX1_takeMoves_27 : decode cX1_takeMoves 27 = .ok (.iload 4, 2) := by decide +kernel
theorem dX1_takeMoves_29 : decode cX1_takeMoves 29 = .ok (.invokevirtual 80, 3) := by decide +kernel
theorem dX1_takeMoves_32 : decode cX1_takeMoves 32 = .ok (.ldc2_w 83, 3) := by decide +kernel
theorem dX1_takeMoves_35 : decode cX1_takeMoves 35 = .ok (.lxor, 1) := by decide +kernel
theorem dX1_takeMoves_36 : decode cX1_takeMoves 36 = .ok (.land, 1) := by decide +kernel
theorem dX1_takeMoves_37 : decode cX1_takeMoves 37 = .ok (.lstore 6, 2) := by decide +kernel
theorem dX1_takeMoves_39 : decode cX1_takeMoves 39 = .ok (.iconst 0, 1) := by decide +kernel
theorem dX1_takeMoves_40 : decode cX1_takeMoves 40 = .ok (.istore 8, 2) := by decide +kernel
theorem dX1_takeMoves_42 : decode cX1_takeMoves 42 = .ok (.lload 6, 2) := by decide +kernel
theorem dX1_takeMoves_44 : decode cX1_takeMoves 44 = .ok (.lconst 0, 1) := by decide +kernel
theorem dX1_takeMoves_45 : decode cX1_takeMoves 45 = .ok (.lcmp, 1) := by decide +kernel
theorem dX1_takeMoves_46 : decode cX1_takeMoves 46 = .ok (.ifCond .eq 54, 3) := by decide +kernel
theorem dX1_takeMoves_49 : decode cX1_takeMoves 49 = .ok (.iload 8, 2) := by decide +kernel
theorem dX1_takeMoves_51 : decode cX1_takeMoves 51 = .ok (.bipush 64, 2) := by decide +kernel
theorem dX1_takeMoves_53 : decode cX1_takeMoves 53 = .ok (.if_icmp .ge 47, 3) := by decide +kernel
theorem dX1_takeMoves_56 : decode cX1_takeMoves 56 = .ok (.lload 6, 2) := by decide +kernel
theorem dX1_takeMoves_58 : decode cX1_takeMoves 58 = .ok (.iload 8, 2) := by decide +kernel
theorem dX1_takeMoves_60 : decode cX1_takeMoves 60 = .ok (.invokestatic 85, 3) := by decide +kernel
theorem dX1_takeMoves_63 : decode cX1_takeMoves 63 = .ok (.ifCond .eq 14, 3) := by decide +kernel
theorem dX1_takeMoves_66 : decode cX1_takeMoves 66 = .ok (.aload_n 3, 1) := by decide +kernel
theorem dX1_takeMoves_67 : decode cX1_takeMoves 67 = .ok (.iload 4, 2) := by decide +kernel
theorem dX1_takeMoves_69 : decode cX1_takeMoves 69 = .ok (.iload 8, 2) := by decide +kernel
theorem dX1_takeMoves_71 : decode cX1_takeMoves 71 = .ok (.invokevirtual 89, 3) := by decide +kernel
theorem dX1_takeMoves_74 : decode cX1_takeMoves 74 = .ok (.goto 4, 3) := by decide +kernel
theorem dX1_takeMoves_77 : decode cX1_takeMoves 77 = .ok (.aconst_null, 1) := by decide +kernel
theorem dX1_takeMoves_78 : decode cX1_takeMoves 78 = .ok (.astore 9, 2) := by decide +kernel
theorem dX1_takeMoves_80 : decode cX1_takeMoves 80 = .ok (.aload 9, 2) := by decide +kernel
theorem dX1_takeMoves_82 : decode cX1_takeMoves 82 = .ok (.ifnull 12, 3) := by decide +kernel
theorem dX1_takeMoves_85 : decode cX1_takeMoves 85 = .ok (.aload_n 0, 1) := by decide +kernel
theorem dX1_takeMoves_86 : decode cX1_takeMoves 86 = .ok (.aload_n 1, 1) := by decide +kernel
theorem dX1_takeMoves_87 : decode cX1_takeMoves 87 = .ok (.aload_n 2, 1) := by decide +kernel
theorem dX1_takeMoves_88 : decode cX1_takeMoves 88 = .ok (.aload_n 3, 1) := by decide +kernel
theorem dX1_takeMoves_89 : decode cX1_takeMoves 89 = .ok (.aload 9, 2) := by decide +kernel
theorem dX1_takeMoves_91 : decode cX1_takeMoves 91 = .ok (.invokevirtual 93, 3) := by decide +kernel
theorem dX1_takeMoves_94 : decode cX1_takeMoves 94 = .ok (.iinc 8 1, 3) := by decide +kernel
theorem dX1_takeMoves_97 : decode cX1_takeMoves 97 = .ok (.goto (-55), 3) := by decide +kernel
theorem dX1_takeMoves_100 : decode cX1_takeMoves 100 = .ok (.return_, 1) := by decide +kernel
theorem dX1_takeMove_0 : decode cX1_takeMove 0 = .ok (.iconst 0, 1) := by decide +kernel
theorem dX1_takeMove_1 : decode cX1_takeMove 1 = .ok (.istore 5, 2) := by decide +kernel
theorem dX1_takeMove_3 : decode cX1_takeMove 3 = .ok (.iload 5, 2) := by decide +kernel
theorem dX1_takeMove_5 : decode cX1_takeMove 5 = .ok (.bipush 16, 2) := by decide +kernel
theorem dX1_takeMove_7 : decode cX1_takeMove 7 = .ok (.if_icmp .ge 94, 3) := by decide +kernel
theorem dX1_takeMove_10 : decode cX1_takeMove 10 = .ok (.aload_n 1, 1) := by decide +kernel
theorem dX1_takeMove_11 : decode cX1_takeMove 11 = .ok (.aload_n 2, 1) := by decide +kernel
theorem dX1_takeMove_12 : decode cX1_takeMove 12 = .ok (.aload_n 3, 1) := by decide +kernel
theorem dX1_takeMove_13 : decode cX1_takeMove 13 = .ok (.getfield 75, 3) := by decide +kernel
theorem dX1_takeMove_16 : decode cX1_takeMove 16 = .ok (.iload 5, 2) := by decide +kernel
theorem dX1_takeMove_18 : decode cX1_takeMove 18 = .ok (.invokestatic 97, 3) := by decide +kernel
theorem dX1_takeMove_21 : decode cX1_takeMove 21 = .ok (.ifCond .eq 74, 3) := by decide +kernel
theorem dX1_takeMove_24 : decode cX1_takeMove 24 = .ok (.aload_n 0, 1) := by decide +kernel
theorem dX1_takeMove_25 : decode cX1_takeMove 25 = .ok (.aload_n 1, 1) := by decide +kernel
theorem dX1_takeMove_26 : decode cX1_takeMove 26 = .ok (.iload 5, 2) := by decide +kernel
theorem dX1_takeMove_28 : decode cX1_takeMove 28 = .ok (.invokevirtual 59, 3) := by decide +kernel
theorem dX1_takeMove_31 : decode cX1_takeMove 31 = .ok (.aload_n 2, 1) := by decide +kernel
theorem dX1_takeMove_32 : decode cX1_takeMove 32 = .ok (.iload 5, 2) := by decide +kernel
theorem dX1_takeMove_34 : decode cX1_takeMove 34 = .ok (.invokevirtual 59, 3) := by decide +kernel
theorem dX1_takeMove_37 : decode cX1_takeMove 37 = .ok (.aload 4, 2) := by decide +kernel
theorem dX1_takeMove_39 : decode cX1_takeMove 39 = .ok (.invokevirtual 101, 3) := by decide +kernel
theorem dX1_takeMove_42 : decode cX1_takeMove 42 = .ok (.ifCond .eq 53, 3) := by decide +kernel
theorem dX1_takeMove_45 : decode cX1_takeMove 45 = .ok (.aload_n 0, 1) := by decide +kernel
theorem dX1_takeMove_46 : decode cX1_takeMove 46 = .ok (.getfield 35, 3) := by decide +kernel
theorem dX1_takeMove_49 : decode cX1_takeMove 49 = .ok (.aload_n 3, 1) := by decide +kernel
theorem dX1_takeMove_50 : decode cX1_takeMove 50 = .ok (.getfield 75, 3) := by decide +kernel
theorem dX1_takeMove_53 : decode cX1_takeMove 53 = .ok (.aload 4, 2) := by decide +kernel
theorem dX1_takeMove_55 : decode cX1_takeMove 55 = .ok (.getfield 105, 3) := by decide +kernel
theorem dX1_takeMove_58 : decode cX1_takeMove 58 = .ok (.aload 4, 2) := by decide +kernel
theorem dX1_takeMove_60 : decode cX1_takeMove 60 = .ok (.getfield 111, 3) := by decide +kernel
theorem dX1_takeMove_63 : decode cX1_takeMove 63 = .ok (.invokestatic 114, 3) := by decide +kernel
theorem dX1_takeMove_66 : decode cX1_takeMove 66 = .ok (.iload 5, 2) := by decide +kernel
theorem dX1_takeMove_68 : decode cX1_takeMove 68 = .ok (.iastore, 1) := by decide +kernel
theorem dX1_takeMove_69 : decode cX1_takeMove 69 = .ok (.aload_n 0, 1) := by decide +kernel
theorem dX1_takeMove_70 : decode cX1_takeMove 70 = .ok (.getfield 38, 3) := by decide +kernel
theorem dX1_takeMove_73 : decode cX1_takeMove 73 = .ok (.iload 5, 2) := by decide +kernel
theorem dX1_takeMove_75 : decode cX1_takeMove 75 = .ok (.aload 4, 2) := by decide +kernel
theorem dX1_takeMove_77 : decode cX1_takeMove 77 = .ok (.getfield 105, 3) := by decide +kernel
theorem dX1_takeMove_80 : decode cX1_takeMove 80 = .ok (.invokestatic 71, 3) := by decide +kernel
theorem dX1_takeMove_83 : decode cX1_takeMove 83 = .ok (.dup2, 1) := by decide +kernel
theorem dX1_takeMove_84 : decode cX1_takeMove 84 = .ok (.laload, 1) := by decide +kernel
theorem dX1_takeMove_85 : decode cX1_takeMove 85 = .ok (.lconst 1, 1) := by decide +kernel
theorem dX1_takeMove_86 : decode cX1_takeMove 86 = .ok (.aload 4, 2) := by decide +kernel
theorem dX1_takeMove_88 : decode cX1_takeMove 88 = .ok (.getfield 111, 3) := by decide +kernel
theorem dX1_takeMove_91 : decode cX1_takeMove 91 = .ok (.lshl, 1) := by decide +kernel
theorem dX1_takeMove_92 : decode cX1_takeMove 92 = .ok (.lor, 1) := by decide +kernel
theorem dX1_takeMove_93 : decode cX1_takeMove 93 = .ok (.lastore, 1) := by decide +kernel
theorem dX1_takeMove_94 : decode cX1_takeMove 94 = .ok (.return_, 1) := by decide +kernel
theorem dX1_takeMove_95 : decode cX1_takeMove 95 = .ok (.iinc 5 1, 3) := by decide +kernel
theorem dX1_takeMove_98 : decode cX1_takeMove 98 = .ok (.goto (-95), 3) := by decide +kernel
theorem dX1_takeMove_101 : decode cX1_takeMove 101 = .ok (.return_, 1) := by decide +kernel
theorem dX1_areAkin_0 : decode cX1_areAkin 0 = .ok (.aload_n 0, 1) := by decide +kernel
theorem dX1_areAkin_1 : decode cX1_areAkin 1 = .ok (.iload_n 2, 1) := by decide +kernel
theorem dX1_areAkin_2 : decode cX1_areAkin 2 = .ok (.iload_n 3, 1) := by decide +kernel
theorem dX1_areAkin_3 : decode cX1_areAkin 3 = .ok (.invokevirtual 118, 3) := by decide +kernel
theorem dX1_areAkin_6 : decode cX1_areAkin 6 = .ok (.ifCond .ne 30, 3) := by decide +kernel
theorem dX1_areAkin_9 : decode cX1_areAkin 9 = .ok (.aload_n 0, 1) := by decide +kernel
theorem dX1_areAkin_10 : decode cX1_areAkin 10 = .ok (.iload_n 3, 1) := by decide +kernel
theorem dX1_areAkin_11 : decode cX1_areAkin 11 = .ok (.iload_n 2, 1) := by decide +kernel
theorem dX1_areAkin_12 : decode cX1_areAkin 12 = .ok (.invokevirtual 118, 3) := by decide +kernel
theorem dX1_areAkin_15 : decode cX1_areAkin 15 = .ok (.ifCond .ne 21, 3) := by decide +kernel
theorem dX1_areAkin_18 : decode cX1_areAkin 18 = .ok (.aload_n 1, 1) := by decide +kernel
theorem dX1_areAkin_19 : decode cX1_areAkin 19 = .ok (.iload_n 2, 1) := by decide +kernel
theorem dX1_areAkin_20 : decode cX1_areAkin 20 = .ok (.iload_n 3, 1) := by decide +kernel
theorem dX1_areAkin_21 : decode cX1_areAkin 21 = .ok (.invokevirtual 118, 3) := by decide +kernel
theorem dX1_areAkin_24 : decode cX1_areAkin 24 = .ok (.ifCond .ne 12, 3) := by decide +kernel
theorem dX1_areAkin_27 : decode cX1_areAkin 27 = .ok (.aload_n 1, 1) := by decide +kernel
theorem dX1_areAkin_28 : decode cX1_areAkin 28 = .ok (.iload_n 3, 1) := by decide +kernel
theorem dX1_areAkin_29 : decode cX1_areAkin 29 = .ok (.iload_n 2, 1) := by decide +kernel
theorem dX1_areAkin_30 : decode cX1_areAkin 30 = .ok (.invokevirtual 118, 3) := by decide +kernel
theorem dX1_areAkin_33 : decode cX1_areAkin 33 = .ok (.ifCond .eq 7, 3) := by decide +kernel
theorem dX1_areAkin_36 : decode cX1_areAkin 36 = .ok (.iconst 1, 1) := by decide +kernel
theorem dX1_areAkin_37 : decode cX1_areAkin 37 = .ok (.goto 4, 3) := by decide +kernel
theorem dX1_areAkin_40 : decode cX1_areAkin 40 = .ok (.iconst 0, 1) := by decide +kernel
theorem dX1_areAkin_41 : decode cX1_areAkin 41 = .ok (.ireturn, 1) := by decide +kernel
theorem dX1_isGoal_0 : decode cX1_isGoal 0 = .ok (.aload_n 2, 1) := by decide +kernel
theorem dX1_isGoal_1 : decode cX1_isGoal 1 = .ok (.ifnull 22, 3) := by decide +kernel
theorem dX1_isGoal_4 : decode cX1_isGoal 4 = .ok (.aload_n 1, 1) := by decide +kernel
theorem dX1_isGoal_5 : decode cX1_isGoal 5 = .ok (.ifnull 20, 3) := by decide +kernel
theorem dX1_isGoal_8 : decode cX1_isGoal 8 = .ok (.aload_n 1, 1) := by decide +kernel
theorem dX1_isGoal_9 : decode cX1_isGoal 9 = .ok (.aload_n 3, 1) := by decide +kernel
theorem dX1_isGoal_10 : decode cX1_isGoal 10 = .ok (.getfield 105, 3) := by decide +kernel
theorem dX1_isGoal_13 : decode cX1_isGoal 13 = .ok (.aload_n 3, 1) := by decide +kernel
theorem dX1_isGoal_14 : decode cX1_isGoal 14 = .ok (.getfield 111, 3) := by decide +kernel
theorem dX1_isGoal_17 : decode cX1_isGoal 17 = .ok (.invokevirtual 122, 3) := by decide +kernel
theorem dX1_isGoal_20 : decode cX1_isGoal 20 = .ok (.ifCond .eq 5, 3) := by decide +kernel
theorem dX1_isGoal_23 : decode cX1_isGoal 23 = .ok (.iconst 0, 1) := by decide +kernel
theorem dX1_isGoal_24 : decode cX1_isGoal 24 = .ok (.ireturn, 1) := by decide +kernel
theorem dX1_isGoal_25 : decode cX1_isGoal 25 = .ok (.aload_n 2, 1) := by decide +kernel
theorem dX1_isGoal_26 : decode cX1_isGoal 26 = .ok (.aload_n 3, 1) := by decide +kernel
theorem dX1_isGoal_27 : decode cX1_isGoal 27 = .ok (.getfield 105, 3) := by decide +kernel
theorem dX1_isGoal_30 : decode cX1_isGoal 30 = .ok (.aload_n 3, 1) := by decide +kernel
theorem dX1_isGoal_31 : decode cX1_isGoal 31 = .ok (.getfield 111, 3) := by decide +kernel
theorem dX1_isGoal_34 : decode cX1_isGoal 34 = .ok (.invokevirtual 89, 3) := by decide +kernel
theorem dX1_isGoal_37 : decode cX1_isGoal 37 = .ok (.astore 4, 2) := by decide +kernel
theorem dX1_isGoal_39 : decode cX1_isGoal 39 = .ok (.aload 4, 2) := by decide +kernel
theorem dX1_isGoal_41 : decode cX1_isGoal 41 = .ok (.ifnull 42, 3) := by decide +kernel
theorem dX1_isGoal_44 : decode cX1_isGoal 44 = .ok (.aload 4, 2) := by decide +kernel
theorem dX1_isGoal_46 : decode cX1_isGoal 46 = .ok (.aload_n 3, 1) := by decide +kernel
theorem dX1_isGoal_47 : decode cX1_isGoal 47 = .ok (.invokevirtual 126, 3) := by decide +kernel
theorem dX1_isGoal_50 : decode cX1_isGoal 50 = .ok (.ifCond .eq 33, 3) := by decide +kernel
theorem dX1_isGoal_53 : decode cX1_isGoal 53 = .ok (.aload_n 0, 1) := by decide +kernel
theorem dX1_isGoal_54 : decode cX1_isGoal 54 = .ok (.getfield 38, 3) := by decide +kernel
theorem dX1_isGoal_57 : decode cX1_isGoal 57 = .ok (.aload_n 2, 1) := by decide +kernel
theorem dX1_isGoal_58 : decode cX1_isGoal 58 = .ok (.getfield 75, 3) := by decide +kernel
theorem dX1_isGoal_61 : decode cX1_isGoal 61 = .ok (.aload_n 3, 1) := by decide +kernel
theorem dX1_isGoal_62 : decode cX1_isGoal 62 = .ok (.getfield 105, 3) := by decide +kernel
theorem dX1_isGoal_65 : decode cX1_isGoal 65 = .ok (.invokestatic 71, 3) := by decide +kernel
theorem dX1_isGoal_68 : decode cX1_isGoal 68 = .ok (.laload, 1) := by decide +kernel
theorem dX1_isGoal_69 : decode cX1_isGoal 69 = .ok (.aload_n 3, 1) := by decide +kernel
theorem dX1_isGoal_70 : decode cX1_isGoal 70 = .ok (.getfield 111, 3) := by decide +kernel
theorem dX1_isGoal_73 : decode cX1_isGoal 73 = .ok (.invokestatic 85, 3) := by decide +kernel
theorem dX1_isGoal_76 : decode cX1_isGoal 76 = .ok (.ifCond .ne 7, 3) := by decide +kernel
theorem dX1_isGoal_79 : decode cX1_isGoal 79 = .ok (.iconst 1, 1) := by decide +kernel
theorem dX1_isGoal_80 : decode cX1_isGoal 80 = .ok (.goto 4, 3) := by decide +kernel
theorem dX1_isGoal_83 : decode cX1_isGoal 83 = .ok (.iconst 0, 1) := by decide +kernel
theorem dX1_isGoal_84 : decode cX1_isGoal 84 = .ok (.ireturn, 1) := by decide +kernel
theorem dX1_tell_0 : decode cX1_tell 0 = .ok (.aload_n 0, 1) := by decide +kernel
theorem dX1_tell_1 : decode cX1_tell 1 = .ok (.getfield 47, 3) := by decide +kernel
theorem dX1_tell_4 : decode cX1_tell 4 = .ok (.sipush 230, 3) := by decide +kernel
theorem dX1_tell_7 : decode cX1_tell 7 = .ok (.if_icmp .ge 65, 3) := by decide +kernel
theorem dX1_tell_10 : decode cX1_tell 10 = .ok (.aload_n 0, 1) := by decide +kernel
theorem dX1_tell_11 : decode cX1_tell 11 = .ok (.getfield 18, 3) := by decide +kernel
theorem dX1_tell_14 : decode cX1_tell 14 = .ok (.aload_n 0, 1) := by decide +kernel
theorem dX1_tell_15 : decode cX1_tell 15 = .ok (.getfield 47, 3) := by decide +kernel
theorem dX1_tell_18 : decode cX1_tell 18 = .ok (.iload_n 1, 1) := by decide +kernel
theorem dX1_tell_19 : decode cX1_tell 19 = .ok (.iastore, 1) := by decide +kernel
theorem dX1_tell_20 : decode cX1_tell 20 = .ok (.aload_n 0, 1) := by decide +kernel
theorem dX1_tell_21 : decode cX1_tell 21 = .ok (.getfield 22, 3) := by decide +kernel
theorem dX1_tell_24 : decode cX1_tell 24 = .ok (.aload_n 0, 1) := by decide +kernel
theorem dX1_tell_25 : decode cX1_tell 25 = .ok (.getfield 47, 3) := by decide +kernel
theorem dX1_tell_28 : decode cX1_tell 28 = .ok (.iload_n 2, 1) := by decide +kernel
theorem dX1_tell_29 : decode cX1_tell 29 = .ok (.iastore, 1) := by decide +kernel
theorem dX1_tell_30 : decode cX1_tell 30 = .ok (.aload_n 0, 1) := by decide +kernel
theorem dX1_tell_31 : decode cX1_tell 31 = .ok (.getfield 31, 3) := by decide +kernel
theorem dX1_tell_34 : decode cX1_tell 34 = .ok (.aload_n 0, 1) := by decide +kernel
theorem dX1_tell_35 : decode cX1_tell 35 = .ok (.getfield 47, 3) := by decide +kernel
theorem dX1_tell_38 : decode cX1_tell 38 = .ok (.iload_n 3, 1) := by decide +kernel
theorem dX1_tell_39 : decode cX1_tell 39 = .ok (.bastore, 1) := by decide +kernel
theorem dX1_tell_40 : decode cX1_tell 40 = .ok (.aload_n 0, 1) := by decide +kernel
theorem dX1_tell_41 : decode cX1_tell 41 = .ok (.getfield 25, 3) := by decide +kernel
theorem dX1_tell_44 : decode cX1_tell 44 = .ok (.aload_n 0, 1) := by decide +kernel
theorem dX1_tell_45 : decode cX1_tell 45 = .ok (.getfield 47, 3) := by decide +kernel
theorem dX1_tell_48 : decode cX1_tell 48 = .ok (.iload 4, 2) := by decide +kernel
theorem dX1_tell_50 : decode cX1_tell 50 = .ok (.iastore, 1) := by decide +kernel
theorem dX1_tell_51 : decode cX1_tell 51 = .ok (.aload_n 0, 1) := by decide +kernel
theorem dX1_tell_52 : decode cX1_tell 52 = .ok (.getfield 28, 3) := by decide +kernel
theorem dX1_tell_55 : decode cX1_tell 55 = .ok (.aload_n 0, 1) := by decide +kernel
theorem dX1_tell_56 : decode cX1_tell 56 = .ok (.getfield 47, 3) := by decide +kernel
theorem dX1_tell_59 : decode cX1_tell 59 = .ok (.iload 5, 2) := by decide +kernel
theorem dX1_tell_61 : decode cX1_tell 61 = .ok (.iastore, 1) := by decide +kernel
theorem dX1_tell_62 : decode cX1_tell 62 = .ok (.aload_n 0, 1) := by decide +kernel
theorem dX1_tell_63 : decode cX1_tell 63 = .ok (.dup, 1) := by decide +kernel
theorem dX1_tell_64 : decode cX1_tell 64 = .ok (.getfield 47, 3) := by decide +kernel
theorem dX1_tell_67 : decode cX1_tell 67 = .ok (.iconst 1, 1) := by decide +kernel
theorem dX1_tell_68 : decode cX1_tell 68 = .ok (.iadd, 1) := by decide +kernel
theorem dX1_tell_69 : decode cX1_tell 69 = .ok (.putfield 47, 3) := by decide +kernel
theorem dX1_tell_72 : decode cX1_tell 72 = .ok (.return_, 1) := by decide +kernel
theorem dX1_tellOfType_0 : decode cX1_tellOfType 0 = .ok (.aload_n 0, 1) := by decide +kernel
theorem dX1_tellOfType_1 : decode cX1_tellOfType 1 = .ok (.iload_n 1, 1) := by decide +kernel
theorem dX1_tellOfType_2 : decode cX1_tellOfType 2 = .ok (.aload_n 2, 1) := by decide +kernel
theorem dX1_tellOfType_3 : decode cX1_tellOfType 3 = .ok (.getfield 75, 3) := by decide +kernel
theorem dX1_tellOfType_6 : decode cX1_tellOfType 6 = .ok (.iconst 0, 1) := by decide +kernel
theorem dX1_tellOfType_7 : decode cX1_tellOfType 7 = .ok (.iconst (-1), 1) := by decide +kernel
theorem dX1_tellOfType_8 : decode cX1_tellOfType 8 = .ok (.iconst (-1), 1) := by decide +kernel
theorem dX1_tellOfType_9 : decode cX1_tellOfType 9 = .ok (.invokevirtual 130, 3) := by decide +kernel
theorem dX1_tellOfType_12 : decode cX1_tellOfType 12 = .ok (.return_, 1) := by decide +kernel
theorem dX1_tellType_0 : decode cX1_tellType 0 = .ok (.aload_n 1, 1) := by decide +kernel
theorem dX1_tellType_1 : decode cX1_tellType 1 = .ok (.ifnull 30, 3) := by decide +kernel
theorem dX1_tellType_4 : decode cX1_tellType 4 = .ok (.aload_n 2, 1) := by decide +kernel
theorem dX1_tellType_5 : decode cX1_tellType 5 = .ok (.ifnull 26, 3) := by decide +kernel
theorem dX1_tellType_8 : decode cX1_tellType 8 = .ok (.aload_n 0, 1) := by decide +kernel
theorem dX1_tellType_9 : decode cX1_tellType 9 = .ok (.aload_n 1, 1) := by decide +kernel
theorem dX1_tellType_10 : decode cX1_tellType 10 = .ok (.aload_n 2, 1) := by decide +kernel
theorem dX1_tellType_11 : decode cX1_tellType 11 = .ok (.invokevirtual 134, 3) := by decide +kernel
theorem dX1_tellType_14 : decode cX1_tellType 14 = .ok (.aload_n 0, 1) := by decide +kernel
theorem dX1_tellType_15 : decode cX1_tellType 15 = .ok (.aload_n 1, 1) := by decide +kernel
theorem dX1_tellType_16 : decode cX1_tellType 16 = .ok (.aload_n 2, 1) := by decide +kernel
theorem dX1_tellType_17 : decode cX1_tellType 17 = .ok (.iconst 0, 1) := by decide +kernel
theorem dX1_tellType_18 : decode cX1_tellType 18 = .ok (.invokevirtual 137, 3) := by decide +kernel
theorem dX1_tellType_21 : decode cX1_tellType 21 = .ok (.aload_n 0, 1) := by decide +kernel
theorem dX1_tellType_22 : decode cX1_tellType 22 = .ok (.aload_n 1, 1) := by decide +kernel
theorem dX1_tellType_23 : decode cX1_tellType 23 = .ok (.aload_n 2, 1) := by decide +kernel
theorem dX1_tellType_24 : decode cX1_tellType 24 = .ok (.iconst 1, 1) := by decide +kernel
theorem dX1_tellType_25 : decode cX1_tellType 25 = .ok (.invokevirtual 137, 3) := by decide +kernel
theorem dX1_tellType_28 : decode cX1_tellType 28 = .ok (.goto 38, 3) := by decide +kernel
theorem dX1_tellType_31 : decode cX1_tellType 31 = .ok (.aload_n 1, 1) := by decide +kernel
theorem dX1_tellType_32 : decode cX1_tellType 32 = .ok (.ifnull 24, 3) := by decide +kernel
theorem dX1_tellType_35 : decode cX1_tellType 35 = .ok (.aload_n 0, 1) := by decide +kernel
theorem dX1_tellType_36 : decode cX1_tellType 36 = .ok (.iconst 1, 1) := by decide +kernel
theorem dX1_tellType_37 : decode cX1_tellType 37 = .ok (.aload_n 1, 1) := by decide +kernel
theorem dX1_tellType_38 : decode cX1_tellType 38 = .ok (.invokevirtual 141, 3) := by decide +kernel
theorem dX1_tellType_41 : decode cX1_tellType 41 = .ok (.aload_n 0, 1) := by decide +kernel
theorem dX1_tellType_42 : decode cX1_tellType 42 = .ok (.aload_n 1, 1) := by decide +kernel
theorem dX1_tellType_43 : decode cX1_tellType 43 = .ok (.iconst 0, 1) := by decide +kernel
theorem dX1_tellType_44 : decode cX1_tellType 44 = .ok (.invokevirtual 145, 3) := by decide +kernel
theorem dX1_tellType_47 : decode cX1_tellType 47 = .ok (.aload_n 0, 1) := by decide +kernel
theorem dX1_tellType_48 : decode cX1_tellType 48 = .ok (.aload_n 1, 1) := by decide +kernel
theorem dX1_tellType_49 : decode cX1_tellType 49 = .ok (.iconst 1, 1) := by decide +kernel
theorem dX1_tellType_50 : decode cX1_tellType 50 = .ok (.invokevirtual 145, 3) := by decide +kernel
theorem dX1_tellType_53 : decode cX1_tellType 53 = .ok (.goto 13, 3) := by decide +kernel
theorem dX1_tellType_56 : decode cX1_tellType 56 = .ok (.aload_n 2, 1) := by decide +kernel
theorem dX1_tellType_57 : decode cX1_tellType 57 = .ok (.ifnull 9, 3) := by decide +kernel
theorem dX1_tellType_60 : decode cX1_tellType 60 = .ok (.aload_n 0, 1) := by decide +kernel
theorem dX1_tellType_61 : decode cX1_tellType 61 = .ok (.iconst 2, 1) := by decide +kernel
theorem dX1_tellType_62 : decode cX1_tellType 62 = .ok (.aload_n 2, 1) := by decide +kernel
theorem dX1_tellType_63 : decode cX1_tellType 63 = .ok (.invokevirtual 141, 3) := by decide +kernel
theorem dX1_tellType_66 : decode cX1_tellType 66 = .ok (.return_, 1) := by decide +kernel
theorem dX1_tellChangedType_0 : decode cX1_tellChangedType 0 = .ok (.aload_n 1, 1) := by decide +kernel
theorem dX1_tellChangedType_1 : decode cX1_tellChangedType 1 = .ok (.getfield 149, 3) := by decide +kernel
theorem dX1_tellChangedType_4 : decode cX1_tellChangedType 4 = .ok (.aload_n 2, 1) := by decide +kernel
theorem dX1_tellChangedType_5 : decode cX1_tellChangedType 5 = .ok (.getfield 149, 3) := by decide +kernel
theorem dX1_tellChangedType_8 : decode cX1_tellChangedType 8 = .ok (.if_icmp .eq 9, 3) := by decide +kernel
theorem dX1_tellChangedType_11 : decode cX1_tellChangedType 11 = .ok (.aload_n 0, 1) := by decide +kernel
theorem dX1_tellChangedType_12 : decode cX1_tellChangedType 12 = .ok (.iconst 3, 1) := by decide +kernel
theorem dX1_tellChangedType_13 : decode cX1_tellChangedType 13 = .ok (.aload_n 1, 1) := by decide +kernel
theorem dX1_tellChangedType_14 : decode cX1_tellChangedType 14 = .ok (.invokevirtual 141, 3) := by decide +kernel
theorem dX1_tellChangedType_17 : decode cX1_tellChangedType 17 = .ok (.aload_n 1, 1) := by decide +kernel
theorem dX1_tellChangedType_18 : decode cX1_tellChangedType 18 = .ok (.getfield 152, 3) := by decide +kernel
theorem dX1_tellChangedType_21 : decode cX1_tellChangedType 21 = .ok (.aload_n 2, 1) := by decide +kernel
theorem dX1_tellChangedType_22 : decode cX1_tellChangedType 22 = .ok (.getfield 152, 3) := by decide +kernel
theorem dX1_tellChangedType_25 : decode cX1_tellChangedType 25 = .ok (.if_icmp .eq 9, 3) := by decide +kernel
theorem dX1_tellChangedType_28 : decode cX1_tellChangedType 28 = .ok (.aload_n 0, 1) := by decide +kernel
theorem dX1_tellChangedType_29 : decode cX1_tellChangedType 29 = .ok (.iconst 4, 1) := by decide +kernel
theorem dX1_tellChangedType_30 : decode cX1_tellChangedType 30 = .ok (.aload_n 1, 1) := by decide +kernel
theorem dX1_tellChangedType_31 : decode cX1_tellChangedType 31 = .ok (.invokevirtual 141, 3) := by decide +kernel
theorem dX1_tellChangedType_34 : decode cX1_tellChangedType 34 = .ok (.aload_n 1, 1) := by decide +kernel
theorem dX1_tellChangedType_35 : decode cX1_tellChangedType 35 = .ok (.getfield 155, 3) := by decide +kernel
theorem dX1_tellChangedType_38 : decode cX1_tellChangedType 38 = .ok (.aload_n 2, 1) := by decide +kernel
theorem dX1_tellChangedType_39 : decode cX1_tellChangedType 39 = .ok (.getfield 155, 3) := by decide +kernel
theorem dX1_tellChangedType_42 : decode cX1_tellChangedType 42 = .ok (.if_icmp .ne 14, 3) := by decide +kernel
theorem dX1_tellChangedType_45 : decode cX1_tellChangedType 45 = .ok (.aload_n 1, 1) := by decide +kernel
theorem dX1_tellChangedType_46 : decode cX1_tellChangedType 46 = .ok (.getfield 158, 3) := by decide +kernel
theorem dX1_tellChangedType_49 : decode cX1_tellChangedType 49 = .ok (.aload_n 2, 1) := by decide +kernel
theorem dX1_tellChangedType_50 : decode cX1_tellChangedType 50 = .ok (.getfield 158, 3) := by decide +kernel
theorem dX1_tellChangedType_53 : decode cX1_tellChangedType 53 = .ok (.if_icmp .eq 9, 3) := by decide +kernel
theorem dX1_tellChangedType_56 : decode cX1_tellChangedType 56 = .ok (.aload_n 0, 1) := by decide +kernel
theorem dX1_tellChangedType_57 : decode cX1_tellChangedType 57 = .ok (.iconst 5, 1) := by decide +kernel
theorem dX1_tellChangedType_58 : decode cX1_tellChangedType 58 = .ok (.aload_n 1, 1) := by decide +kernel
theorem dX1_tellChangedType_59 : decode cX1_tellChangedType 59 = .ok (.invokevirtual 141, 3) := by decide +kernel
theorem dX1_tellChangedType_62 : decode cX1_tellChangedType 62 = .ok (.aload_n 1, 1) := by decide +kernel
theorem dX1_tellChangedType_63 : decode cX1_tellChangedType 63 = .ok (.getfield 161, 3) := by decide +kernel
theorem dX1_tellChangedType_66 : decode cX1_tellChangedType 66 = .ok (.aload_n 2, 1) := by decide +kernel
theorem dX1_tellChangedType_67 : decode cX1_tellChangedType 67 = .ok (.getfield 161, 3) := by decide +kernel
theorem dX1_tellChangedType_70 : decode cX1_tellChangedType 70 = .ok (.if_icmp .eq 10, 3) := by decide +kernel
theorem dX1_tellChangedType_73 : decode cX1_tellChangedType 73 = .ok (.aload_n 0, 1) := by decide +kernel
theorem dX1_tellChangedType_74 : decode cX1_tellChangedType 74 = .ok (.bipush 6, 2) := by decide +kernel
theorem dX1_tellChangedType_76 : decode cX1_tellChangedType 76 = .ok (.aload_n 1, 1) := by decide +kernel
theorem dX1_tellChangedType_77 : decode cX1_tellChangedType 77 = .ok (.invokevirtual 141, 3) := by decide +kernel
theorem dX1_tellChangedType_80 : decode cX1_tellChangedType 80 = .ok (.aload_n 1, 1) := by decide +kernel
theorem dX1_tellChangedType_81 : decode cX1_tellChangedType 81 = .ok (.invokevirtual 164, 3) := by decide +kernel
theorem dX1_tellChangedType_84 : decode cX1_tellChangedType 84 = .ok (.aload_n 2, 1) := by decide +kernel
theorem dX1_tellChangedType_85 : decode cX1_tellChangedType 85 = .ok (.invokevirtual 164, 3) := by decide +kernel
theorem dX1_tellChangedType_88 : decode cX1_tellChangedType 88 = .ok (.if_icmp .eq 10, 3) := by decide +kernel
theorem dX1_tellChangedType_91 : decode cX1_tellChangedType 91 = .ok (.aload_n 0, 1) := by decide +kernel
theorem dX1_tellChangedType_92 : decode cX1_tellChangedType 92 = .ok (.bipush 7, 2) := by decide +kernel
theorem dX1_tellChangedType_94 : decode cX1_tellChangedType 94 = .ok (.aload_n 1, 1) := by decide +kernel
theorem dX1_tellChangedType_95 : decode cX1_tellChangedType 95 = .ok (.invokevirtual 141, 3) := by decide +kernel
theorem dX1_tellChangedType_98 : decode cX1_tellChangedType 98 = .ok (.return_, 1) := by decide +kernel
theorem dX1_tellMoves_0 : decode cX1_tellMoves 0 = .ok (.aload_n 1, 1) := by decide +kernel
theorem dX1_tellMoves_1 : decode cX1_tellMoves 1 = .ok (.iload_n 2, 1) := by decide +kernel
theorem dX1_tellMoves_2 : decode cX1_tellMoves 2 = .ok (.invokevirtual 80, 3) := by decide +kernel
theorem dX1_tellMoves_5 : decode cX1_tellMoves 5 = .ok (.lstore_n 3, 1) := by decide +kernel
theorem dX1_tellMoves_6 : decode cX1_tellMoves 6 = .ok (.iconst 0, 1) := by decide +kernel
theorem dX1_tellMoves_7 : decode cX1_tellMoves 7 = .ok (.istore 5, 2) := by decide +kernel
theorem dX1_tellMoves_9 : decode cX1_tellMoves 9 = .ok (.lload_n 3, 1) := by decide +kernel
theorem dX1_tellMoves_10 : decode cX1_tellMoves 10 = .ok (.lconst 0, 1) := by decide +kernel
theorem dX1_tellMoves_11 : decode cX1_tellMoves 11 = .ok (.lcmp, 1) := by decide +kernel
theorem dX1_tellMoves_12 : decode cX1_tellMoves 12 = .ok (.ifCond .eq 67, 3) := by decide +kernel
theorem dX1_tellMoves_15 : decode cX1_tellMoves 15 = .ok (.iload 5, 2) := by decide +kernel
theorem dX1_tellMoves_17 : decode cX1_tellMoves 17 = .ok (.bipush 64, 2) := by decide +kernel
theorem dX1_tellMoves_19 : decode cX1_tellMoves 19 = .ok (.if_icmp .ge 60, 3) := by decide +kernel
theorem dX1_tellMoves_22 : decode cX1_tellMoves 22 = .ok (.lload_n 3, 1) := by decide +kernel
theorem dX1_tellMoves_23 : decode cX1_tellMoves 23 = .ok (.iload 5, 2) := by decide +kernel
theorem dX1_tellMoves_25 : decode cX1_tellMoves 25 = .ok (.invokestatic 85, 3) := by decide +kernel
theorem dX1_tellMoves_28 : decode cX1_tellMoves 28 = .ok (.ifCond .eq 21, 3) := by decide +kernel
theorem dX1_tellMoves_31 : decode cX1_tellMoves 31 = .ok (.aload_n 0, 1) := by decide +kernel
theorem dX1_tellMoves_32 : decode cX1_tellMoves 32 = .ok (.getfield 35, 3) := by decide +kernel
theorem dX1_tellMoves_35 : decode cX1_tellMoves 35 = .ok (.aload_n 1, 1) := by decide +kernel
theorem dX1_tellMoves_36 : decode cX1_tellMoves 36 = .ok (.getfield 75, 3) := by decide +kernel
theorem dX1_tellMoves_39 : decode cX1_tellMoves 39 = .ok (.iload_n 2, 1) := by decide +kernel
theorem dX1_tellMoves_40 : decode cX1_tellMoves 40 = .ok (.iload 5, 2) := by decide +kernel
theorem dX1_tellMoves_42 : decode cX1_tellMoves 42 = .ok (.invokestatic 114, 3) := by decide +kernel
theorem dX1_tellMoves_45 : decode cX1_tellMoves 45 = .ok (.iaload, 1) := by decide +kernel
theorem dX1_tellMoves_46 : decode cX1_tellMoves 46 = .ok (.goto 4, 3) := by decide +kernel
theorem dX1_tellMoves_49 : decode cX1_tellMoves 49 = .ok (.iconst (-1), 1) := by decide +kernel
theorem dX1_tellMoves_50 : decode cX1_tellMoves 50 = .ok (.istore 6, 2) := by decide +kernel
theorem dX1_tellMoves_52 : decode cX1_tellMoves 52 = .ok (.iload 6, 2) := by decide +kernel
theorem dX1_tellMoves_54 : decode cX1_tellMoves 54 = .ok (.iconst (-1), 1) := by decide +kernel
theorem dX1_tellMoves_55 : decode cX1_tellMoves 55 = .ok (.if_icmp .eq 18, 3) := by decide +kernel
theorem dX1_tellMoves_58 : decode cX1_tellMoves 58 = .ok (.aload_n 0, 1) := by decide +kernel
theorem dX1_tellMoves_59 : decode cX1_tellMoves 59 = .ok (.bipush 10, 2) := by decide +kernel
theorem dX1_tellMoves_61 : decode cX1_tellMoves 61 = .ok (.aload_n 1, 1) := by decide +kernel
theorem dX1_tellMoves_62 : decode cX1_tellMoves 62 = .ok (.getfield 75, 3) := by decide +kernel
theorem dX1_tellMoves_65 : decode cX1_tellMoves 65 = .ok (.iload_n 2, 1) := by decide +kernel
theorem dX1_tellMoves_66 : decode cX1_tellMoves 66 = .ok (.iload 5, 2) := by decide +kernel
theorem dX1_tellMoves_68 : decode cX1_tellMoves 68 = .ok (.iload 6, 2) := by decide +kernel
theorem dX1_tellMoves_70 : decode cX1_tellMoves 70 = .ok (.invokevirtual 130, 3) := by decide +kernel
theorem dX1_tellMoves_73 : decode cX1_tellMoves 73 = .ok (.iinc 5 1, 3) := by decide +kernel
theorem dX1_tellMoves_76 : decode cX1_tellMoves 76 = .ok (.goto (-67), 3) := by decide +kernel
theorem dX1_tellMoves_79 : decode cX1_tellMoves 79 = .ok (.return_, 1) := by decide +kernel
theorem dX1_tellMembers_0 : decode cX1_tellMembers 0 = .ok (.aload_n 1, 1) := by decide +kernel
theorem dX1_tellMembers_1 : decode cX1_tellMembers 1 = .ok (.iload_n 3, 1) := by decide +kernel
theorem dX1_tellMembers_2 : decode cX1_tellMembers 2 = .ok (.invokevirtual 80, 3) := by decide +kernel
theorem dX1_tellMembers_5 : decode cX1_tellMembers 5 = .ok (.aload_n 2, 1) := by decide +kernel
theorem dX1_tellMembers_6 : decode cX1_tellMembers 6 = .ok (.iload_n 3, 1) := by decide +kernel
theorem dX1_tellMembers_7 : decode cX1_tellMembers 7 = .ok (.invokevirtual 80, 3) := by decide +kernel
theorem dX1_tellMembers_10 : decode cX1_tellMembers 10 = .ok (.lor, 1) := by decide +kernel
theorem dX1_tellMembers_11 : decode cX1_tellMembers 11 = .ok (.lstore 4, 2) := by decide +kernel
theorem dX1_tellMembers_13 : decode cX1_tellMembers 13 = .ok (.iconst 0, 1) := by decide +kernel
theorem dX1_tellMembers_14 : decode cX1_tellMembers 14 = .ok (.istore 6, 2) := by decide +kernel
theorem dX1_tellMembers_16 : decode cX1_tellMembers 16 = .ok (.lload 4, 2) := by decide +kernel
theorem dX1_tellMembers_18 : decode cX1_tellMembers 18 = .ok (.lconst 0, 1) := by decide +kernel
theorem dX1_tellMembers_19 : decode cX1_tellMembers 19 = .ok (.lcmp, 1) := by decide +kernel
theorem dX1_tellMembers_20 : decode cX1_tellMembers 20 = .ok (.ifCond .eq 35, 3) := by decide +kernel
theorem dX1_tellMembers_23 : decode cX1_tellMembers 23 = .ok (.iload 6, 2) := by decide +kernel
theorem dX1_tellMembers_25 : decode cX1_tellMembers 25 = .ok (.bipush 64, 2) := by decide +kernel
theorem dX1_tellMembers_27 : decode cX1_tellMembers 27 = .ok (.if_icmp .ge 28, 3) := by decide +kernel
theorem dX1_tellMembers_30 : decode cX1_tellMembers 30 = .ok (.lload 4, 2) := by decide +kernel
theorem dX1_tellMembers_32 : decode cX1_tellMembers 32 = .ok (.iload 6, 2) := by decide +kernel
theorem dX1_tellMembers_34 : decode cX1_tellMembers 34 = .ok (.invokestatic 85, 3) := by decide +kernel
theorem dX1_tellMembers_37 : decode cX1_tellMembers 37 = .ok (.ifCond .eq 12, 3) := by decide +kernel
theorem dX1_tellMembers_40 : decode cX1_tellMembers 40 = .ok (.aload_n 0, 1) := by decide +kernel
theorem dX1_tellMembers_41 : decode cX1_tellMembers 41 = .ok (.aload_n 1, 1) := by decide +kernel
theorem dX1_tellMembers_42 : decode cX1_tellMembers 42 = .ok (.aload_n 2, 1) := by decide +kernel
theorem dX1_tellMembers_43 : decode cX1_tellMembers 43 = .ok (.iload_n 3, 1) := by decide +kernel
theorem dX1_tellMembers_44 : decode cX1_tellMembers 44 = .ok (.iload 6, 2) := by decide +kernel
theorem dX1_tellMembers_46 : decode cX1_tellMembers 46 = .ok (.invokevirtual 168, 3) := by decide +kernel
theorem dX1_tellMembers_49 : decode cX1_tellMembers 49 = .ok (.iinc 6 1, 3) := by decide +kernel
theorem dX1_tellMembers_52 : decode cX1_tellMembers 52 = .ok (.goto (-36), 3) := by decide +kernel
theorem dX1_tellMembers_55 : decode cX1_tellMembers 55 = .ok (.return_, 1) := by decide +kernel
theorem dX1_tellMember_0 : decode cX1_tellMember 0 = .ok (.aload_n 1, 1) := by decide +kernel
theorem dX1_tellMember_1 : decode cX1_tellMember 1 = .ok (.iload_n 3, 1) := by decide +kernel
theorem dX1_tellMember_2 : decode cX1_tellMember 2 = .ok (.iload 4, 2) := by decide +kernel
theorem dX1_tellMember_4 : decode cX1_tellMember 4 = .ok (.invokevirtual 89, 3) := by decide +kernel
theorem dX1_tellMember_7 : decode cX1_tellMember 7 = .ok (.astore 5, 2) := by decide +kernel
theorem dX1_tellMember_9 : decode cX1_tellMember 9 = .ok (.aload_n 2, 1) := by decide +kernel
theorem dX1_tellMember_10 : decode cX1_tellMember 10 = .ok (.iload_n 3, 1) := by decide +kernel
theorem dX1_tellMember_11 : decode cX1_tellMember 11 = .ok (.iload 4, 2) := by decide +kernel
theorem dX1_tellMember_13 : decode cX1_tellMember 13 = .ok (.invokevirtual 89, 3) := by decide +kernel
theorem dX1_tellMember_16 : decode cX1_tellMember 16 = .ok (.astore 6, 2) := by decide +kernel
theorem dX1_tellMember_18 : decode cX1_tellMember 18 = .ok (.aload 5, 2) := by decide +kernel
theorem dX1_tellMember_20 : decode cX1_tellMember 20 = .ok (.ifnull 23, 3) := by decide +kernel
theorem dX1_tellMember_23 : decode cX1_tellMember 23 = .ok (.aload 6, 2) := by decide +kernel
theorem dX1_tellMember_25 : decode cX1_tellMember 25 = .ok (.ifnull 18, 3) := by decide +kernel
theorem dX1_tellMember_28 : decode cX1_tellMember 28 = .ok (.aload_n 0, 1) := by decide +kernel
theorem dX1_tellMember_29 : decode cX1_tellMember 29 = .ok (.aload_n 1, 1) := by decide +kernel
theorem dX1_tellMember_30 : decode cX1_tellMember 30 = .ok (.getfield 75, 3) := by decide +kernel
theorem dX1_tellMember_33 : decode cX1_tellMember 33 = .ok (.aload 5, 2) := by decide +kernel
theorem dX1_tellMember_35 : decode cX1_tellMember 35 = .ok (.aload 6, 2) := by decide +kernel
theorem dX1_tellMember_37 : decode cX1_tellMember 37 = .ok (.invokevirtual 172, 3) := by decide +kernel
theorem dX1_tellMember_40 : decode cX1_tellMember 40 = .ok (.goto 94, 3) := by decide +kernel
theorem dX1_tellMember_43 : decode cX1_tellMember 43 = .ok (.aload 5, 2) := by decide +kernel
theorem dX1_tellMember_45 : decode cX1_tellMember 45 = .ok (.ifnull 49, 3) := by decide +kernel
theorem dX1_tellMember_48 : decode cX1_tellMember 48 = .ok (.aload_n 0, 1) := by decide +kernel
theorem dX1_tellMember_49 : decode cX1_tellMember 49 = .ok (.getfield 35, 3) := by decide +kernel
theorem dX1_tellMember_52 : decode cX1_tellMember 52 = .ok (.aload_n 1, 1) := by decide +kernel
theorem dX1_tellMember_53 : decode cX1_tellMember 53 = .ok (.getfield 75, 3) := by decide +kernel
theorem dX1_tellMember_56 : decode cX1_tellMember 56 = .ok (.iload_n 3, 1) := by decide +kernel
theorem dX1_tellMember_57 : decode cX1_tellMember 57 = .ok (.iload 4, 2) := by decide +kernel
theorem dX1_tellMember_59 : decode cX1_tellMember 59 = .ok (.invokestatic 114, 3) := by decide +kernel
theorem dX1_tellMember_62 : decode cX1_tellMember 62 = .ok (.iaload, 1) := by decide +kernel
theorem dX1_tellMember_63 : decode cX1_tellMember 63 = .ok (.istore 7, 2) := by decide +kernel
theorem dX1_tellMember_65 : decode cX1_tellMember 65 = .ok (.aload_n 0, 1) := by decide +kernel
theorem dX1_tellMember_66 : decode cX1_tellMember 66 = .ok (.iload 7, 2) := by decide +kernel
theorem dX1_tellMember_68 : decode cX1_tellMember 68 = .ok (.iconst (-1), 1) := by decide +kernel
theorem dX1_tellMember_69 : decode cX1_tellMember 69 = .ok (.if_icmp .ne 8, 3) := by decide +kernel
theorem dX1_tellMember_72 : decode cX1_tellMember 72 = .ok (.bipush 8, 2) := by decide +kernel
theorem dX1_tellMember_74 : decode cX1_tellMember 74 = .ok (.goto 5, 3) := by decide +kernel
theorem dX1_tellMember_77 : decode cX1_tellMember 77 = .ok (.bipush 10, 2) := by decide +kernel
theorem dX1_tellMember_79 : decode cX1_tellMember 79 = .ok (.aload_n 1, 1) := by decide +kernel
theorem dX1_tellMember_80 : decode cX1_tellMember 80 = .ok (.getfield 75, 3) := by decide +kernel
theorem dX1_tellMember_83 : decode cX1_tellMember 83 = .ok (.iload_n 3, 1) := by decide +kernel
theorem dX1_tellMember_84 : decode cX1_tellMember 84 = .ok (.iload 4, 2) := by decide +kernel
theorem dX1_tellMember_86 : decode cX1_tellMember 86 = .ok (.iload 7, 2) := by decide +kernel
theorem dX1_tellMember_88 : decode cX1_tellMember 88 = .ok (.invokevirtual 130, 3) := by decide +kernel
theorem dX1_tellMember_91 : decode cX1_tellMember 91 = .ok (.goto 43, 3) := by decide +kernel
theorem dX1_tellMember_94 : decode cX1_tellMember 94 = .ok (.aload 6, 2) := by decide +kernel
theorem dX1_tellMember_96 : decode cX1_tellMember 96 = .ok (.ifnull 38, 3) := by decide +kernel
theorem dX1_tellMember_99 : decode cX1_tellMember 99 = .ok (.aload_n 0, 1) := by decide +kernel
theorem dX1_tellMember_100 : decode cX1_tellMember 100 = .ok (.getfield 38, 3) := by decide +kernel
theorem dX1_tellMember_103 : decode cX1_tellMember 103 = .ok (.aload_n 2, 1) := by decide +kernel
theorem dX1_tellMember_104 : decode cX1_tellMember 104 = .ok (.getfield 75, 3) := by decide +kernel
theorem dX1_tellMember_107 : decode cX1_tellMember 107 = .ok (.iload_n 3, 1) := by decide +kernel
theorem dX1_tellMember_108 : decode cX1_tellMember 108 = .ok (.invokestatic 71, 3) := by decide +kernel
theorem dX1_tellMember_111 : decode cX1_tellMember 111 = .ok (.laload, 1) := by decide +kernel
theorem dX1_tellMember_112 : decode cX1_tellMember 112 = .ok (.iload 4, 2) := by decide +kernel
theorem dX1_tellMember_114 : decode cX1_tellMember 114 = .ok (.invokestatic 85, 3) := by decide +kernel
theorem dX1_tellMember_117 : decode cX1_tellMember 117 = .ok (.ifCond .ne 17, 3) := by decide +kernel
theorem dX1_tellMember_120 : decode cX1_tellMember 120 = .ok (.aload_n 0, 1) := by decide +kernel
theorem dX1_tellMember_121 : decode cX1_tellMember 121 = .ok (.bipush 9, 2) := by decide +kernel
theorem dX1_tellMember_123 : decode cX1_tellMember 123 = .ok (.aload_n 2, 1) := by decide +kernel
theorem dX1_tellMember_124 : decode cX1_tellMember 124 = .ok (.getfield 75, 3) := by decide +kernel
theorem dX1_tellMember_127 : decode cX1_tellMember 127 = .ok (.iload_n 3, 1) := by decide +kernel
theorem dX1_tellMember_128 : decode cX1_tellMember 128 = .ok (.iload 4, 2) := by decide +kernel
theorem dX1_tellMember_130 : decode cX1_tellMember 130 = .ok (.iconst (-1), 1) := by decide +kernel
theorem dX1_tellMember_131 : decode cX1_tellMember 131 = .ok (.invokevirtual 130, 3) := by decide +kernel
theorem dX1_tellMember_134 : decode cX1_tellMember 134 = .ok (.return_, 1) := by decide +kernel
theorem dX1_tellChangedMember_0 : decode cX1_tellChangedMember 0 = .ok (.aload_n 2, 1) := by decide +kernel
theorem dX1_tellChangedMember_1 : decode cX1_tellChangedMember 1 = .ok (.getfield 176, 3) := by decide +kernel
theorem dX1_tellChangedMember_4 : decode cX1_tellChangedMember 4 = .ok (.aload_n 3, 1) := by decide +kernel
theorem dX1_tellChangedMember_5 : decode cX1_tellChangedMember 5 = .ok (.getfield 176, 3) := by decide +kernel
theorem dX1_tellChangedMember_8 : decode cX1_tellChangedMember 8 = .ok (.if_icmp .eq 19, 3) := by decide +kernel
theorem dX1_tellChangedMember_11 : decode cX1_tellChangedMember 11 = .ok (.aload_n 0, 1) := by decide +kernel
theorem dX1_tellChangedMember_12 : decode cX1_tellChangedMember 12 = .ok (.bipush 11, 2) := by decide +kernel
theorem dX1_tellChangedMember_14 : decode cX1_tellChangedMember 14 = .ok (.iload_n 1, 1) := by decide +kernel
theorem dX1_tellChangedMember_15 : decode cX1_tellChangedMember 15 = .ok (.aload_n 2, 1) := by decide +kernel
theorem dX1_tellChangedMember_16 : decode cX1_tellChangedMember 16 = .ok (.getfield 105, 3) := by decide +kernel
theorem dX1_tellChangedMember_19 : decode cX1_tellChangedMember 19 = .ok (.aload_n 2, 1) := by decide +kernel
theorem dX1_tellChangedMember_20 : decode cX1_tellChangedMember 20 = .ok (.getfield 111, 3) := by decide +kernel
theorem dX1_tellChangedMember_23 : decode cX1_tellChangedMember 23 = .ok (.iconst (-1), 1) := by decide +kernel
theorem dX1_tellChangedMember_24 : decode cX1_tellChangedMember 24 = .ok (.invokevirtual 130, 3) := by decide +kernel
theorem dX1_tellChangedMember_27 : decode cX1_tellChangedMember 27 = .ok (.aload_n 2, 1) := by decide +kernel
theorem dX1_tellChangedMember_28 : decode cX1_tellChangedMember 28 = .ok (.getfield 179, 3) := by decide +kernel
theorem dX1_tellChangedMember_31 : decode cX1_tellChangedMember 31 = .ok (.aload_n 3, 1) := by decide +kernel
theorem dX1_tellChangedMember_32 : decode cX1_tellChangedMember 32 = .ok (.getfield 179, 3) := by decide +kernel
theorem dX1_tellChangedMember_35 : decode cX1_tellChangedMember 35 = .ok (.if_icmp .eq 19, 3) := by decide +kernel
theorem dX1_tellChangedMember_38 : decode cX1_tellChangedMember 38 = .ok (.aload_n 0, 1) := by decide +kernel
theorem dX1_tellChangedMember_39 : decode cX1_tellChangedMember 39 = .ok (.bipush 12, 2) := by decide +kernel
theorem dX1_tellChangedMember_41 : decode cX1_tellChangedMember 41 = .ok (.iload_n 1, 1) := by decide +kernel
theorem dX1_tellChangedMember_42 : decode cX1_tellChangedMember 42 = .ok (.aload_n 2, 1) := by decide +kernel
theorem dX1_tellChangedMember_43 : decode cX1_tellChangedMember 43 = .ok (.getfield 105, 3) := by decide +kernel
theorem dX1_tellChangedMember_46 : decode cX1_tellChangedMember 46 = .ok (.aload_n 2, 1) := by decide +kernel
theorem dX1_tellChangedMember_47 : decode cX1_tellChangedMember 47 = .ok (.getfield 111, 3) := by decide +kernel
theorem dX1_tellChangedMember_50 : decode cX1_tellChangedMember 50 = .ok (.iconst (-1), 1) := by decide +kernel
theorem dX1_tellChangedMember_51 : decode cX1_tellChangedMember 51 = .ok (.invokevirtual 130, 3) := by decide +kernel
theorem dX1_tellChangedMember_54 : decode cX1_tellChangedMember 54 = .ok (.aload_n 2, 1) := by decide +kernel
theorem dX1_tellChangedMember_55 : decode cX1_tellChangedMember 55 = .ok (.aload_n 3, 1) := by decide +kernel
theorem dX1_tellChangedMember_56 : decode cX1_tellChangedMember 56 = .ok (.invokevirtual 182, 3) := by decide +kernel
theorem dX1_tellChangedMember_59 : decode cX1_tellChangedMember 59 = .ok (.ifCond .ne 19, 3) := by decide +kernel
theorem dX1_tellChangedMember_62 : decode cX1_tellChangedMember 62 = .ok (.aload_n 0, 1) := by decide +kernel
theorem dX1_tellChangedMember_63 : decode cX1_tellChangedMember 63 = .ok (.bipush 13, 2) := by decide +kernel
theorem dX1_tellChangedMember_65 : decode cX1_tellChangedMember 65 = .ok (.iload_n 1, 1) := by decide +kernel
theorem dX1_tellChangedMember_66 : decode cX1_tellChangedMember 66 = .ok (.aload_n 2, 1) := by decide +kernel
theorem dX1_tellChangedMember_67 : decode cX1_tellChangedMember 67 = .ok (.getfield 105, 3) := by decide +kernel
theorem dX1_tellChangedMember_70 : decode cX1_tellChangedMember 70 = .ok (.aload_n 2, 1) := by decide +kernel
theorem dX1_tellChangedMember_71 : decode cX1_tellChangedMember 71 = .ok (.getfield 111, 3) := by decide +kernel
theorem dX1_tellChangedMember_74 : decode cX1_tellChangedMember 74 = .ok (.iconst (-1), 1) := by decide +kernel
theorem dX1_tellChangedMember_75 : decode cX1_tellChangedMember 75 = .ok (.invokevirtual 130, 3) := by decide +kernel
theorem dX1_tellChangedMember_78 : decode cX1_tellChangedMember 78 = .ok (.return_, 1) := by decide +kernel
