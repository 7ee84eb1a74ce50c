theorem dL_edition_0 : decode cL_edition 0 = .ok (.aload_n 1, 1) := by decide +kernel
theorem dL_edition_1 : decode cL_edition 1 = .ok (.iconst 0, 1) := by decide +kernel
theorem dL_edition_2 : decode cL_edition 2 = .ok (.aload_n 0, 1) := by decide +kernel
theorem dL_edition_3 : decode cL_edition 3 = .ok (.invokevirtual 7, 3) := by decide +kernel
theorem dL_edition_6 : decode cL_edition 6 = .ok (.i2l, 1) := by decide +kernel
theorem dL_edition_7 : decode cL_edition 7 = .ok (.lastore, 1) := by decide +kernel
theorem dL_edition_8 : decode cL_edition 8 = .ok (.goto 6, 3) := by decide +kernel
theorem dL_edition_11 : decode cL_edition 11 = .ok (.astore_n 2, 1) := by decide +kernel
theorem dL_edition_12 : decode cL_edition 12 = .ok (.iconst 1, 1) := by decide +kernel
theorem dL_edition_13 : decode cL_edition 13 = .ok (.ireturn, 1) := by decide +kernel
theorem dL_edition_14 : decode cL_edition 14 = .ok (.iconst 0, 1) := by decide +kernel
theorem dL_edition_15 : decode cL_edition 15 = .ok (.ireturn, 1) := by decide +kernel
theorem dL_copy_0 : decode cL_copy 0 = .ok (.aload_n 2, 1) := by decide +kernel
theorem dL_copy_1 : decode cL_copy 1 = .ok (.iconst 0, 1) := by decide +kernel
theorem dL_copy_2 : decode cL_copy 2 = .ok (.aload_n 0, 1) := by decide +kernel
theorem dL_copy_3 : decode cL_copy 3 = .ok (.iload_n 1, 1) := by decide +kernel
theorem dL_copy_4 : decode cL_copy 4 = .ok (.invokevirtual 15, 3) := by decide +kernel
theorem dL_copy_7 : decode cL_copy 7 = .ok (.i2l, 1) := by decide +kernel
theorem dL_copy_8 : decode cL_copy 8 = .ok (.lastore, 1) := by decide +kernel
theorem dL_copy_9 : decode cL_copy 9 = .ok (.goto 12, 3) := by decide +kernel
theorem dL_copy_12 : decode cL_copy 12 = .ok (.astore_n 3, 1) := by decide +kernel
theorem dL_copy_13 : decode cL_copy 13 = .ok (.iconst 1, 1) := by decide +kernel
theorem dL_copy_14 : decode cL_copy 14 = .ok (.ireturn, 1) := by decide +kernel
theorem dL_copy_15 : decode cL_copy 15 = .ok (.astore_n 3, 1) := by decide +kernel
theorem dL_copy_16 : decode cL_copy 16 = .ok (.iconst 2, 1) := by decide +kernel
theorem dL_copy_17 : decode cL_copy 17 = .ok (.ireturn, 1) := by decide +kernel
theorem dL_copy_18 : decode cL_copy 18 = .ok (.astore_n 3, 1) := by decide +kernel
theorem dL_copy_19 : decode cL_copy 19 = .ok (.iconst 3, 1) := by decide +kernel
theorem dL_copy_20 : decode cL_copy 20 = .ok (.ireturn, 1) := by decide +kernel
theorem dL_copy_21 : decode cL_copy 21 = .ok (.iconst 0, 1) := by decide +kernel
theorem dL_copy_22 : decode cL_copy 22 = .ok (.ireturn, 1) := by decide +kernel
theorem dL_type_0 : decode cL_type 0 = .ok (.aload 8, 2) := by decide +kernel
theorem dL_type_2 : decode cL_type 2 = .ok (.iconst 0, 1) := by decide +kernel
theorem dL_type_3 : decode cL_type 3 = .ok (.aload_n 0, 1) := by decide +kernel
theorem dL_type_4 : decode cL_type 4 = .ok (.iload_n 1, 1) := by decide +kernel
theorem dL_type_5 : decode cL_type 5 = .ok (.iload_n 2, 1) := by decide +kernel
theorem dL_type_6 : decode cL_type 6 = .ok (.iload_n 3, 1) := by decide +kernel
theorem dL_type_7 : decode cL_type 7 = .ok (.iload 4, 2) := by decide +kernel
theorem dL_type_9 : decode cL_type 9 = .ok (.iload 5, 2) := by decide +kernel
theorem dL_type_11 : decode cL_type 11 = .ok (.iload 6, 2) := by decide +kernel
theorem dL_type_13 : decode cL_type 13 = .ok (.iload 7, 2) := by decide +kernel
theorem dL_type_15 : decode cL_type 15 = .ok (.invokevirtual 23, 3) := by decide +kernel
theorem dL_type_18 : decode cL_type 18 = .ok (.i2l, 1) := by decide +kernel
theorem dL_type_19 : decode cL_type 19 = .ok (.lastore, 1) := by decide +kernel
theorem dL_type_20 : decode cL_type 20 = .ok (.goto 19, 3) := by decide +kernel
theorem dL_type_23 : decode cL_type 23 = .ok (.astore 9, 2) := by decide +kernel
theorem dL_type_25 : decode cL_type 25 = .ok (.iconst 1, 1) := by decide +kernel
theorem dL_type_26 : decode cL_type 26 = .ok (.ireturn, 1) := by decide +kernel
theorem dL_type_27 : decode cL_type 27 = .ok (.astore 9, 2) := by decide +kernel
theorem dL_type_29 : decode cL_type 29 = .ok (.iconst 2, 1) := by decide +kernel
theorem dL_type_30 : decode cL_type 30 = .ok (.ireturn, 1) := by decide +kernel
theorem dL_type_31 : decode cL_type 31 = .ok (.astore 9, 2) := by decide +kernel
theorem dL_type_33 : decode cL_type 33 = .ok (.iconst 3, 1) := by decide +kernel
theorem dL_type_34 : decode cL_type 34 = .ok (.ireturn, 1) := by decide +kernel
theorem dL_type_35 : decode cL_type 35 = .ok (.astore 9, 2) := by decide +kernel
theorem dL_type_37 : decode cL_type 37 = .ok (.iconst 4, 1) := by decide +kernel
theorem dL_type_38 : decode cL_type 38 = .ok (.ireturn, 1) := by decide +kernel
theorem dL_type_39 : decode cL_type 39 = .ok (.iconst 0, 1) := by decide +kernel
theorem dL_type_40 : decode cL_type 40 = .ok (.ireturn, 1) := by decide +kernel
theorem dL_implement_0 : decode cL_implement 0 = .ok (.aload 4, 2) := by decide +kernel
theorem dL_implement_2 : decode cL_implement 2 = .ok (.iconst 0, 1) := by decide +kernel
theorem dL_implement_3 : decode cL_implement 3 = .ok (.aload_n 0, 1) := by decide +kernel
theorem dL_implement_4 : decode cL_implement 4 = .ok (.iload_n 1, 1) := by decide +kernel
theorem dL_implement_5 : decode cL_implement 5 = .ok (.iload_n 2, 1) := by decide +kernel
theorem dL_implement_6 : decode cL_implement 6 = .ok (.iload_n 3, 1) := by decide +kernel
theorem dL_implement_7 : decode cL_implement 7 = .ok (.invokevirtual 29, 3) := by decide +kernel
theorem dL_implement_10 : decode cL_implement 10 = .ok (.i2l, 1) := by decide +kernel
theorem dL_implement_11 : decode cL_implement 11 = .ok (.lastore, 1) := by decide +kernel
theorem dL_implement_12 : decode cL_implement 12 = .ok (.goto 19, 3) := by decide +kernel
theorem dL_implement_15 : decode cL_implement 15 = .ok (.astore 5, 2) := by decide +kernel
theorem dL_implement_17 : decode cL_implement 17 = .ok (.iconst 1, 1) := by decide +kernel
theorem dL_implement_18 : decode cL_implement 18 = .ok (.ireturn, 1) := by decide +kernel
theorem dL_implement_19 : decode cL_implement 19 = .ok (.astore 5, 2) := by decide +kernel
theorem dL_implement_21 : decode cL_implement 21 = .ok (.iconst 2, 1) := by decide +kernel
theorem dL_implement_22 : decode cL_implement 22 = .ok (.ireturn, 1) := by decide +kernel
theorem dL_implement_23 : decode cL_implement 23 = .ok (.astore 5, 2) := by decide +kernel
theorem dL_implement_25 : decode cL_implement 25 = .ok (.iconst 3, 1) := by decide +kernel
theorem dL_implement_26 : decode cL_implement 26 = .ok (.ireturn, 1) := by decide +kernel
theorem dL_implement_27 : decode cL_implement 27 = .ok (.astore 5, 2) := by decide +kernel
theorem dL_implement_29 : decode cL_implement 29 = .ok (.iconst 4, 1) := by decide +kernel
theorem dL_implement_30 : decode cL_implement 30 = .ok (.ireturn, 1) := by decide +kernel
theorem dL_implement_31 : decode cL_implement 31 = .ok (.iconst 0, 1) := by decide +kernel
theorem dL_implement_32 : decode cL_implement 32 = .ok (.ireturn, 1) := by decide +kernel
theorem dL_member_0 : decode cL_member 0 = .ok (.aload 9, 2) := by decide +kernel
theorem dL_member_2 : decode cL_member 2 = .ok (.iconst 0, 1) := by decide +kernel
theorem dL_member_3 : decode cL_member 3 = .ok (.aload_n 0, 1) := by decide +kernel
theorem dL_member_4 : decode cL_member 4 = .ok (.iload_n 1, 1) := by decide +kernel
theorem dL_member_5 : decode cL_member 5 = .ok (.iload_n 2, 1) := by decide +kernel
theorem dL_member_6 : decode cL_member 6 = .ok (.iload_n 3, 1) := by decide +kernel
theorem dL_member_7 : decode cL_member 7 = .ok (.iload 4, 2) := by decide +kernel
theorem dL_member_9 : decode cL_member 9 = .ok (.iload 5, 2) := by decide +kernel
theorem dL_member_11 : decode cL_member 11 = .ok (.iload 6, 2) := by decide +kernel
theorem dL_member_13 : decode cL_member 13 = .ok (.iload 7, 2) := by decide +kernel
theorem dL_member_15 : decode cL_member 15 = .ok (.iload 8, 2) := by decide +kernel
theorem dL_member_17 : decode cL_member 17 = .ok (.invokevirtual 33, 3) := by decide +kernel
theorem dL_member_20 : decode cL_member 20 = .ok (.i2l, 1) := by decide +kernel
theorem dL_member_21 : decode cL_member 21 = .ok (.lastore, 1) := by decide +kernel
theorem dL_member_22 : decode cL_member 22 = .ok (.goto 19, 3) := by decide +kernel
theorem dL_member_25 : decode cL_member 25 = .ok (.astore 10, 2) := by decide +kernel
theorem dL_member_27 : decode cL_member 27 = .ok (.iconst 1, 1) := by decide +kernel
theorem dL_member_28 : decode cL_member 28 = .ok (.ireturn, 1) := by decide +kernel
theorem dL_member_29 : decode cL_member 29 = .ok (.astore 10, 2) := by decide +kernel
theorem dL_member_31 : decode cL_member 31 = .ok (.iconst 2, 1) := by decide +kernel
theorem dL_member_32 : decode cL_member 32 = .ok (.ireturn, 1) := by decide +kernel
theorem dL_member_33 : decode cL_member 33 = .ok (.astore 10, 2) := by decide +kernel
theorem dL_member_35 : decode cL_member 35 = .ok (.iconst 3, 1) := by decide +kernel
theorem dL_member_36 : decode cL_member 36 = .ok (.ireturn, 1) := by decide +kernel
theorem dL_member_37 : decode cL_member 37 = .ok (.astore 10, 2) := by decide +kernel
theorem dL_member_39 : decode cL_member 39 = .ok (.iconst 4, 1) := by decide +kernel
theorem dL_member_40 : decode cL_member 40 = .ok (.ireturn, 1) := by decide +kernel
theorem dL_member_41 : decode cL_member 41 = .ok (.iconst 0, 1) := by decide +kernel
theorem dL_member_42 : decode cL_member 42 = .ok (.ireturn, 1) := by decide +kernel
theorem dL_drop_0 : decode cL_drop 0 = .ok (.aload 6, 2) := by decide +kernel
theorem dL_drop_2 : decode cL_drop 2 = .ok (.iconst 0, 1) := by decide +kernel
theorem dL_drop_3 : decode cL_drop 3 = .ok (.aload_n 0, 1) := by decide +kernel
theorem dL_drop_4 : decode cL_drop 4 = .ok (.iload_n 1, 1) := by decide +kernel
theorem dL_drop_5 : decode cL_drop 5 = .ok (.iload_n 2, 1) := by decide +kernel
theorem dL_drop_6 : decode cL_drop 6 = .ok (.iload_n 3, 1) := by decide +kernel
theorem dL_drop_7 : decode cL_drop 7 = .ok (.iload 4, 2) := by decide +kernel
theorem dL_drop_9 : decode cL_drop 9 = .ok (.iload 5, 2) := by decide +kernel
theorem dL_drop_11 : decode cL_drop 11 = .ok (.invokevirtual 37, 3) := by decide +kernel
theorem dL_drop_14 : decode cL_drop 14 = .ok (.ifCond .eq 7, 3) := by decide +kernel
theorem dL_drop_17 : decode cL_drop 17 = .ok (.lconst 1, 1) := by decide +kernel
theorem dL_drop_18 : decode cL_drop 18 = .ok (.goto 4, 3) := by decide +kernel
theorem dL_drop_21 : decode cL_drop 21 = .ok (.lconst 0, 1) := by decide +kernel
theorem dL_drop_22 : decode cL_drop 22 = .ok (.lastore, 1) := by decide +kernel
theorem dL_drop_23 : decode cL_drop 23 = .ok (.goto 11, 3) := by decide +kernel
theorem dL_drop_26 : decode cL_drop 26 = .ok (.astore 7, 2) := by decide +kernel
theorem dL_drop_28 : decode cL_drop 28 = .ok (.iconst 1, 1) := by decide +kernel
theorem dL_drop_29 : decode cL_drop 29 = .ok (.ireturn, 1) := by decide +kernel
theorem dL_drop_30 : decode cL_drop 30 = .ok (.astore 7, 2) := by decide +kernel
theorem dL_drop_32 : decode cL_drop 32 = .ok (.iconst 2, 1) := by decide +kernel
theorem dL_drop_33 : decode cL_drop 33 = .ok (.ireturn, 1) := by decide +kernel
theorem dL_drop_34 : decode cL_drop 34 = .ok (.iconst 0, 1) := by decide +kernel
theorem dL_drop_35 : decode cL_drop 35 = .ok (.ireturn, 1) := by decide +kernel
theorem dL_seal_0 : decode cL_seal 0 = .ok (.aload_n 2, 1) := by decide +kernel
theorem dL_seal_1 : decode cL_seal 1 = .ok (.iconst 0, 1) := by decide +kernel
theorem dL_seal_2 : decode cL_seal 2 = .ok (.aload_n 0, 1) := by decide +kernel
theorem dL_seal_3 : decode cL_seal 3 = .ok (.iload_n 1, 1) := by decide +kernel
theorem dL_seal_4 : decode cL_seal 4 = .ok (.invokevirtual 41, 3) := by decide +kernel
theorem dL_seal_7 : decode cL_seal 7 = .ok (.i2l, 1) := by decide +kernel
theorem dL_seal_8 : decode cL_seal 8 = .ok (.lastore, 1) := by decide +kernel
theorem dL_seal_9 : decode cL_seal 9 = .ok (.goto 9, 3) := by decide +kernel
theorem dL_seal_12 : decode cL_seal 12 = .ok (.astore_n 3, 1) := by decide +kernel
theorem dL_seal_13 : decode cL_seal 13 = .ok (.iconst 1, 1) := by decide +kernel
theorem dL_seal_14 : decode cL_seal 14 = .ok (.ireturn, 1) := by decide +kernel
theorem dL_seal_15 : decode cL_seal 15 = .ok (.astore_n 3, 1) := by decide +kernel
theorem dL_seal_16 : decode cL_seal 16 = .ok (.iconst 2, 1) := by decide +kernel
theorem dL_seal_17 : decode cL_seal 17 = .ok (.ireturn, 1) := by decide +kernel
theorem dL_seal_18 : decode cL_seal 18 = .ok (.iconst 0, 1) := by decide +kernel
theorem dL_seal_19 : decode cL_seal 19 = .ok (.ireturn, 1) := by decide +kernel
theorem dL_above_0 : decode cL_above 0 = .ok (.aload 4, 2) := by decide +kernel
theorem dL_above_2 : decode cL_above 2 = .ok (.iconst 0, 1) := by decide +kernel
theorem dL_above_3 : decode cL_above 3 = .ok (.aload_n 0, 1) := by decide +kernel
theorem dL_above_4 : decode cL_above 4 = .ok (.iload_n 1, 1) := by decide +kernel
theorem dL_above_5 : decode cL_above 5 = .ok (.iload_n 2, 1) := by decide +kernel
theorem dL_above_6 : decode cL_above 6 = .ok (.iload_n 3, 1) := by decide +kernel
theorem dL_above_7 : decode cL_above 7 = .ok (.invokevirtual 44, 3) := by decide +kernel
theorem dL_above_10 : decode cL_above 10 = .ok (.ifCond .eq 7, 3) := by decide +kernel
theorem dL_above_13 : decode cL_above 13 = .ok (.lconst 1, 1) := by decide +kernel
theorem dL_above_14 : decode cL_above 14 = .ok (.goto 4, 3) := by decide +kernel
theorem dL_above_17 : decode cL_above 17 = .ok (.lconst 0, 1) := by decide +kernel
theorem dL_above_18 : decode cL_above 18 = .ok (.lastore, 1) := by decide +kernel
theorem dL_above_19 : decode cL_above 19 = .ok (.goto 11, 3) := by decide +kernel
theorem dL_above_22 : decode cL_above 22 = .ok (.astore 5, 2) := by decide +kernel
theorem dL_above_24 : decode cL_above 24 = .ok (.iconst 1, 1) := by decide +kernel
theorem dL_above_25 : decode cL_above 25 = .ok (.ireturn, 1) := by decide +kernel
theorem dL_above_26 : decode cL_above 26 = .ok (.astore 5, 2) := by decide +kernel
theorem dL_above_28 : decode cL_above 28 = .ok (.iconst 2, 1) := by decide +kernel
theorem dL_above_29 : decode cL_above 29 = .ok (.ireturn, 1) := by decide +kernel
theorem dL_above_30 : decode cL_above 30 = .ok (.iconst 0, 1) := by decide +kernel
theorem dL_above_31 : decode cL_above 31 = .ok (.ireturn, 1) := by decide +kernel
theorem dL_find_0 : decode cL_find 0 = .ok (.aload 6, 2) := by decide +kernel
theorem dL_find_2 : decode cL_find 2 = .ok (.iconst 0, 1) := by decide +kernel
theorem dL_find_3 : decode cL_find 3 = .ok (.aload_n 0, 1) := by decide +kernel
theorem dL_find_4 : decode cL_find 4 = .ok (.iload_n 1, 1) := by decide +kernel
theorem dL_find_5 : decode cL_find 5 = .ok (.iload_n 2, 1) := by decide +kernel
theorem dL_find_6 : decode cL_find 6 = .ok (.iload_n 3, 1) := by decide +kernel
theorem dL_find_7 : decode cL_find 7 = .ok (.iload 4, 2) := by decide +kernel
theorem dL_find_9 : decode cL_find 9 = .ok (.iload 5, 2) := by decide +kernel
theorem dL_find_11 : decode cL_find 11 = .ok (.invokevirtual 48, 3) := by decide +kernel
theorem dL_find_14 : decode cL_find 14 = .ok (.i2l, 1) := by decide +kernel
theorem dL_find_15 : decode cL_find 15 = .ok (.lastore, 1) := by decide +kernel
theorem dL_find_16 : decode cL_find 16 = .ok (.goto 11, 3) := by decide +kernel
theorem dL_find_19 : decode cL_find 19 = .ok (.astore 7, 2) := by decide +kernel
theorem dL_find_21 : decode cL_find 21 = .ok (.iconst 1, 1) := by decide +kernel
theorem dL_find_22 : decode cL_find 22 = .ok (.ireturn, 1) := by decide +kernel
theorem dL_find_23 : decode cL_find 23 = .ok (.astore 7, 2) := by decide +kernel
theorem dL_find_25 : decode cL_find 25 = .ok (.iconst 2, 1) := by decide +kernel
theorem dL_find_26 : decode cL_find 26 = .ok (.ireturn, 1) := by decide +kernel
theorem dL_find_27 : decode cL_find 27 = .ok (.iconst 0, 1) := by decide +kernel
theorem dL_find_28 : decode cL_find 28 = .ok (.ireturn, 1) := by decide +kernel
theorem dL_select_0 : decode cL_select 0 = .ok (.aload 6, 2) := by decide +kernel
theorem dL_select_2 : decode cL_select 2 = .ok (.iconst 0, 1) := by decide +kernel
theorem dL_select_3 : decode cL_select 3 = .ok (.aload_n 0, 1) := by decide +kernel
theorem dL_select_4 : decode cL_select 4 = .ok (.iload_n 1, 1) := by decide +kernel
theorem dL_select_5 : decode cL_select 5 = .ok (.iload_n 2, 1) := by decide +kernel
theorem dL_select_6 : decode cL_select 6 = .ok (.iload_n 3, 1) := by decide +kernel
theorem dL_select_7 : decode cL_select 7 = .ok (.iload 4, 2) := by decide +kernel
theorem dL_select_9 : decode cL_select 9 = .ok (.iload 5, 2) := by decide +kernel
theorem dL_select_11 : decode cL_select 11 = .ok (.invokevirtual 52, 3) := by decide +kernel
theorem dL_select_14 : decode cL_select 14 = .ok (.i2l, 1) := by decide +kernel
theorem dL_select_15 : decode cL_select 15 = .ok (.lastore, 1) := by decide +kernel
theorem dL_select_16 : decode cL_select 16 = .ok (.goto 11, 3) := by decide +kernel
theorem dL_select_19 : decode cL_select 19 = .ok (.astore 7, 2) := by decide +kernel
theorem dL_select_21 : decode cL_select 21 = .ok (.iconst 1, 1) := by decide +kernel
theorem dL_select_22 : decode cL_select 22 = .ok (.ireturn, 1) := by decide +kernel
theorem dL_select_23 : decode cL_select 23 = .ok (.astore 7, 2) := by decide +kernel
theorem dL_select_25 : decode cL_select 25 = .ok (.iconst 2, 1) := by decide +kernel
theorem dL_select_26 : decode cL_select 26 = .ok (.ireturn, 1) := by decide +kernel
theorem dL_select_27 : decode cL_select 27 = .ok (.iconst 0, 1) := by decide +kernel
theorem dL_select_28 : decode cL_select 28 = .ok (.ireturn, 1) := by decide +kernel
theorem dL_caller_0 : decode cL_caller 0 = .ok (.aload 4, 2) := by decide +kernel
theorem dL_caller_2 : decode cL_caller 2 = .ok (.iconst 0, 1) := by decide +kernel
theorem dL_caller_3 : decode cL_caller 3 = .ok (.aload_n 0, 1) := by decide +kernel
theorem dL_caller_4 : decode cL_caller 4 = .ok (.iload_n 1, 1) := by decide +kernel
theorem dL_caller_5 : decode cL_caller 5 = .ok (.iload_n 2, 1) := by decide +kernel
theorem dL_caller_6 : decode cL_caller 6 = .ok (.iload_n 3, 1) := by decide +kernel
theorem dL_caller_7 : decode cL_caller 7 = .ok (.invokevirtual 56, 3) := by decide +kernel
theorem dL_caller_10 : decode cL_caller 10 = .ok (.i2l, 1) := by decide +kernel
theorem dL_caller_11 : decode cL_caller 11 = .ok (.lastore, 1) := by decide +kernel
theorem dL_caller_12 : decode cL_caller 12 = .ok (.goto 19, 3) := by decide +kernel
theorem dL_caller_15 : decode cL_caller 15 = .ok (.astore 5, 2) := by decide +kernel
theorem dL_caller_17 : decode cL_caller 17 = .ok (.iconst 1, 1) := by decide +kernel
theorem dL_caller_18 : decode cL_caller 18 = .ok (.ireturn, 1) := by decide +kernel
theorem dL_caller_19 : decode cL_caller 19 = .ok (.astore 5, 2) := by decide +kernel
theorem dL_caller_21 : decode cL_caller 21 = .ok (.iconst 2, 1) := by decide +kernel
theorem dL_caller_22 : decode cL_caller 22 = .ok (.ireturn, 1) := by decide +kernel
theorem dL_caller_23 : decode cL_caller 23 = .ok (.astore 5, 2) := by decide +kernel
theorem dL_caller_25 : decode cL_caller 25 = .ok (.iconst 3, 1) := by decide +kernel
theorem dL_caller_26 : decode cL_caller 26 = .ok (.ireturn, 1) := by decide +kernel
theorem dL_caller_27 : decode cL_caller 27 = .ok (.astore 5, 2) := by decide +kernel
theorem dL_caller_29 : decode cL_caller 29 = .ok (.iconst 4, 1) := by decide +kernel
theorem dL_caller_30 : decode cL_caller 30 = .ok (.ireturn, 1) := by decide +kernel
theorem dL_caller_31 : decode cL_caller 31 = .ok (.iconst 0, 1) := by decide +kernel
theorem dL_caller_32 : decode cL_caller 32 = .ok (.ireturn, 1) := by decide +kernel
theorem dL_use_0 : decode cL_use 0 = .ok (.aload 7, 2) := by decide +kernel
theorem dL_use_2 : decode cL_use 2 = .ok (.iconst 0, 1) := by decide +kernel
theorem dL_use_3 : decode cL_use 3 = .ok (.aload_n 0, 1) := by decide +kernel
theorem dL_use_4 : decode cL_use 4 = .ok (.iload_n 1, 1) := by decide +kernel
theorem dL_use_5 : decode cL_use 5 = .ok (.iload_n 2, 1) := by decide +kernel
theorem dL_use_6 : decode cL_use 6 = .ok (.iload_n 3, 1) := by decide +kernel
theorem dL_use_7 : decode cL_use 7 = .ok (.iload 4, 2) := by decide +kernel
theorem dL_use_9 : decode cL_use 9 = .ok (.iload 5, 2) := by decide +kernel
theorem dL_use_11 : decode cL_use 11 = .ok (.iload 6, 2) := by decide +kernel
theorem dL_use_13 : decode cL_use 13 = .ok (.invokevirtual 59, 3) := by decide +kernel
theorem dL_use_16 : decode cL_use 16 = .ok (.i2l, 1) := by decide +kernel
theorem dL_use_17 : decode cL_use 17 = .ok (.lastore, 1) := by decide +kernel
theorem dL_use_18 : decode cL_use 18 = .ok (.goto 15, 3) := by decide +kernel
theorem dL_use_21 : decode cL_use 21 = .ok (.astore 8, 2) := by decide +kernel
theorem dL_use_23 : decode cL_use 23 = .ok (.iconst 1, 1) := by decide +kernel
theorem dL_use_24 : decode cL_use 24 = .ok (.ireturn, 1) := by decide +kernel
theorem dL_use_25 : decode cL_use 25 = .ok (.astore 8, 2) := by decide +kernel
theorem dL_use_27 : decode cL_use 27 = .ok (.iconst 2, 1) := by decide +kernel
theorem dL_use_28 : decode cL_use 28 = .ok (.ireturn, 1) := by decide +kernel
theorem dL_use_29 : decode cL_use 29 = .ok (.astore 8, 2) := by decide +kernel
theorem dL_use_31 : decode cL_use 31 = .ok (.iconst 3, 1) := by decide +kernel
theorem dL_use_32 : decode cL_use 32 = .ok (.ireturn, 1) := by decide +kernel
theorem dL_use_33 : decode cL_use 33 = .ok (.iconst 0, 1) := by decide +kernel
theorem dL_use_34 : decode cL_use 34 = .ok (.ireturn, 1) := by decide +kernel
theorem dL_foretell_0 : decode cL_foretell 0 = .ok (.aload 4, 2) := by decide +kernel
theorem dL_foretell_2 : decode cL_foretell 2 = .ok (.iconst 0, 1) := by decide +kernel
theorem dL_foretell_3 : decode cL_foretell 3 = .ok (.aload_n 0, 1) := by decide +kernel
theorem dL_foretell_4 : decode cL_foretell 4 = .ok (.iload_n 1, 1) := by decide +kernel
theorem dL_foretell_5 : decode cL_foretell 5 = .ok (.iload_n 2, 1) := by decide +kernel
theorem dL_foretell_6 : decode cL_foretell 6 = .ok (.iload_n 3, 1) := by decide +kernel
theorem dL_foretell_7 : decode cL_foretell 7 = .ok (.invokevirtual 63, 3) := by decide +kernel
theorem dL_foretell_10 : decode cL_foretell 10 = .ok (.i2l, 1) := by decide +kernel
theorem dL_foretell_11 : decode cL_foretell 11 = .ok (.lastore, 1) := by decide +kernel
theorem dL_foretell_12 : decode cL_foretell 12 = .ok (.goto 11, 3) := by decide +kernel
theorem dL_foretell_15 : decode cL_foretell 15 = .ok (.astore 5, 2) := by decide +kernel
theorem dL_foretell_17 : decode cL_foretell 17 = .ok (.iconst 1, 1) := by decide +kernel
theorem dL_foretell_18 : decode cL_foretell 18 = .ok (.ireturn, 1) := by decide +kernel
theorem dL_foretell_19 : decode cL_foretell 19 = .ok (.astore 5, 2) := by decide +kernel
theorem dL_foretell_21 : decode cL_foretell 21 = .ok (.iconst 2, 1) := by decide +kernel
theorem dL_foretell_22 : decode cL_foretell 22 = .ok (.ireturn, 1) := by decide +kernel
theorem dL_foretell_23 : decode cL_foretell 23 = .ok (.iconst 0, 1) := by decide +kernel
theorem dL_foretell_24 : decode cL_foretell 24 = .ok (.ireturn, 1) := by decide +kernel
theorem dL_runs_0 : decode cL_runs 0 = .ok (.aload 4, 2) := by decide +kernel
theorem dL_runs_2 : decode cL_runs 2 = .ok (.iconst 0, 1) := by decide +kernel
theorem dL_runs_3 : decode cL_runs 3 = .ok (.aload_n 0, 1) := by decide +kernel
theorem dL_runs_4 : decode cL_runs 4 = .ok (.iload_n 1, 1) := by decide +kernel
theorem dL_runs_5 : decode cL_runs 5 = .ok (.iload_n 2, 1) := by decide +kernel
theorem dL_runs_6 : decode cL_runs 6 = .ok (.iload_n 3, 1) := by decide +kernel
theorem dL_runs_7 : decode cL_runs 7 = .ok (.invokevirtual 66, 3) := by decide +kernel
theorem dL_runs_10 : decode cL_runs 10 = .ok (.i2l, 1) := by decide +kernel
theorem dL_runs_11 : decode cL_runs 11 = .ok (.lastore, 1) := by decide +kernel
theorem dL_runs_12 : decode cL_runs 12 = .ok (.goto 11, 3) := by decide +kernel
theorem dL_runs_15 : decode cL_runs 15 = .ok (.astore 5, 2) := by decide +kernel
theorem dL_runs_17 : decode cL_runs 17 = .ok (.iconst 1, 1) := by decide +kernel
theorem dL_runs_18 : decode cL_runs 18 = .ok (.ireturn, 1) := by decide +kernel
theorem dL_runs_19 : decode cL_runs 19 = .ok (.astore 5, 2) := by decide +kernel
theorem dL_runs_21 : decode cL_runs 21 = .ok (.iconst 2, 1) := by decide +kernel
theorem dL_runs_22 : decode cL_runs 22 = .ok (.ireturn, 1) := by decide +kernel
theorem dL_runs_23 : decode cL_runs 23 = .ok (.iconst 0, 1) := by decide +kernel
theorem dL_runs_24 : decode cL_runs 24 = .ok (.ireturn, 1) := by decide +kernel
theorem dL_copied_0 : decode cL_copied 0 = .ok (.aload_n 3, 1) := by decide +kernel
theorem dL_copied_1 : decode cL_copied 1 = .ok (.iconst 0, 1) := by decide +kernel
theorem dL_copied_2 : decode cL_copied 2 = .ok (.aload_n 0, 1) := by decide +kernel
theorem dL_copied_3 : decode cL_copied 3 = .ok (.iload_n 1, 1) := by decide +kernel
theorem dL_copied_4 : decode cL_copied 4 = .ok (.iload_n 2, 1) := by decide +kernel
theorem dL_copied_5 : decode cL_copied 5 = .ok (.invokevirtual 69, 3) := by decide +kernel
theorem dL_copied_8 : decode cL_copied 8 = .ok (.i2l, 1) := by decide +kernel
theorem dL_copied_9 : decode cL_copied 9 = .ok (.lastore, 1) := by decide +kernel
theorem dL_copied_10 : decode cL_copied 10 = .ok (.goto 7, 3) := by decide +kernel
theorem dL_copied_13 : decode cL_copied 13 = .ok (.astore 4, 2) := by decide +kernel
theorem dL_copied_15 : decode cL_copied 15 = .ok (.iconst 1, 1) := by decide +kernel
theorem dL_copied_16 : decode cL_copied 16 = .ok (.ireturn, 1) := by decide +kernel
theorem dL_copied_17 : decode cL_copied 17 = .ok (.iconst 0, 1) := by decide +kernel
theorem dL_copied_18 : decode cL_copied 18 = .ok (.ireturn, 1) := by decide +kernel
theorem dL_meets_0 : decode cL_meets 0 = .ok (.aload 4, 2) := by decide +kernel
theorem dL_meets_2 : decode cL_meets 2 = .ok (.iconst 0, 1) := by decide +kernel
theorem dL_meets_3 : decode cL_meets 3 = .ok (.aload_n 0, 1) := by decide +kernel
theorem dL_meets_4 : decode cL_meets 4 = .ok (.iload_n 1, 1) := by decide +kernel
theorem dL_meets_5 : decode cL_meets 5 = .ok (.iload_n 2, 1) := by decide +kernel
theorem dL_meets_6 : decode cL_meets 6 = .ok (.iload_n 3, 1) := by decide +kernel
theorem dL_meets_7 : decode cL_meets 7 = .ok (.invokevirtual 73, 3) := by decide +kernel
theorem dL_meets_10 : decode cL_meets 10 = .ok (.i2l, 1) := by decide +kernel
theorem dL_meets_11 : decode cL_meets 11 = .ok (.lastore, 1) := by decide +kernel
theorem dL_meets_12 : decode cL_meets 12 = .ok (.goto 11, 3) := by decide +kernel
theorem dL_meets_15 : decode cL_meets 15 = .ok (.astore 5, 2) := by decide +kernel
theorem dL_meets_17 : decode cL_meets 17 = .ok (.iconst 1, 1) := by decide +kernel
theorem dL_meets_18 : decode cL_meets 18 = .ok (.ireturn, 1) := by decide +kernel
theorem dL_meets_19 : decode cL_meets 19 = .ok (.astore 5, 2) := by decide +kernel
theorem dL_meets_21 : decode cL_meets 21 = .ok (.iconst 2, 1) := by decide +kernel
theorem dL_meets_22 : decode cL_meets 22 = .ok (.ireturn, 1) := by decide +kernel
theorem dL_meets_23 : decode cL_meets 23 = .ok (.iconst 0, 1) := by decide +kernel
theorem dL_meets_24 : decode cL_meets 24 = .ok (.ireturn, 1) := by decide +kernel
theorem dL_best_0 : decode cL_best 0 = .ok (.aload_n 3, 1) := by decide +kernel
theorem dL_best_1 : decode cL_best 1 = .ok (.iconst 0, 1) := by decide +kernel
theorem dL_best_2 : decode cL_best 2 = .ok (.aload_n 0, 1) := by decide +kernel
theorem dL_best_3 : decode cL_best 3 = .ok (.iload_n 1, 1) := by decide +kernel
theorem dL_best_4 : decode cL_best 4 = .ok (.iload_n 2, 1) := by decide +kernel
theorem dL_best_5 : decode cL_best 5 = .ok (.invokevirtual 76, 3) := by decide +kernel
theorem dL_best_8 : decode cL_best 8 = .ok (.i2l, 1) := by decide +kernel
theorem dL_best_9 : decode cL_best 9 = .ok (.lastore, 1) := by decide +kernel
theorem dL_best_10 : decode cL_best 10 = .ok (.goto 7, 3) := by decide +kernel
theorem dL_best_13 : decode cL_best 13 = .ok (.astore 4, 2) := by decide +kernel
theorem dL_best_15 : decode cL_best 15 = .ok (.iconst 1, 1) := by decide +kernel
theorem dL_best_16 : decode cL_best 16 = .ok (.ireturn, 1) := by decide +kernel
theorem dL_best_17 : decode cL_best 17 = .ok (.iconst 0, 1) := by decide +kernel
theorem dL_best_18 : decode cL_best 18 = .ok (.ireturn, 1) := by decide +kernel
theorem dL_differ_0 : decode cL_differ 0 = .ok (.aload_n 3, 1) := by decide +kernel
theorem dL_differ_1 : decode cL_differ 1 = .ok (.iconst 0, 1) := by decide +kernel
theorem dL_differ_2 : decode cL_differ 2 = .ok (.aload_n 0, 1) := by decide +kernel
theorem dL_differ_3 : decode cL_differ 3 = .ok (.iload_n 1, 1) := by decide +kernel
theorem dL_differ_4 : decode cL_differ 4 = .ok (.iload_n 2, 1) := by decide +kernel
theorem dL_differ_5 : decode cL_differ 5 = .ok (.invokevirtual 80, 3) := by decide +kernel
theorem dL_differ_8 : decode cL_differ 8 = .ok (.i2l, 1) := by decide +kernel
theorem dL_differ_9 : decode cL_differ 9 = .ok (.lastore, 1) := by decide +kernel
theorem dL_differ_10 : decode cL_differ 10 = .ok (.goto 11, 3) := by decide +kernel
theorem dL_differ_13 : decode cL_differ 13 = .ok (.astore 4, 2) := by decide +kernel
theorem dL_differ_15 : decode cL_differ 15 = .ok (.iconst 1, 1) := by decide +kernel
theorem dL_differ_16 : decode cL_differ 16 = .ok (.ireturn, 1) := by decide +kernel
theorem dL_differ_17 : decode cL_differ 17 = .ok (.astore 4, 2) := by decide +kernel
theorem dL_differ_19 : decode cL_differ 19 = .ok (.iconst 2, 1) := by decide +kernel
theorem dL_differ_20 : decode cL_differ 20 = .ok (.ireturn, 1) := by decide +kernel
theorem dL_differ_21 : decode cL_differ 21 = .ok (.iconst 0, 1) := by decide +kernel
theorem dL_differ_22 : decode cL_differ 22 = .ok (.ireturn, 1) := by decide +kernel
theorem dL_difference_0 : decode cL_difference 0 = .ok (.aload 5, 2) := by decide +kernel
theorem dL_difference_2 : decode cL_difference 2 = .ok (.iconst 0, 1) := by decide +kernel
theorem dL_difference_3 : decode cL_difference 3 = .ok (.aload_n 0, 1) := by decide +kernel
theorem dL_difference_4 : decode cL_difference 4 = .ok (.iload_n 1, 1) := by decide +kernel
theorem dL_difference_5 : decode cL_difference 5 = .ok (.iload_n 2, 1) := by decide +kernel
theorem dL_difference_6 : decode cL_difference 6 = .ok (.iload_n 3, 1) := by decide +kernel
theorem dL_difference_7 : decode cL_difference 7 = .ok (.iload 4, 2) := by decide +kernel
theorem dL_difference_9 : decode cL_difference 9 = .ok (.invokevirtual 83, 3) := by decide +kernel
theorem dL_difference_12 : decode cL_difference 12 = .ok (.i2l, 1) := by decide +kernel
theorem dL_difference_13 : decode cL_difference 13 = .ok (.lastore, 1) := by decide +kernel
theorem dL_difference_14 : decode cL_difference 14 = .ok (.goto 15, 3) := by decide +kernel
theorem dL_difference_17 : decode cL_difference 17 = .ok (.astore 6, 2) := by decide +kernel
theorem dL_difference_19 : decode cL_difference 19 = .ok (.iconst 1, 1) := by decide +kernel
theorem dL_difference_20 : decode cL_difference 20 = .ok (.ireturn, 1) := by decide +kernel
theorem dL_difference_21 : decode cL_difference 21 = .ok (.astore 6, 2) := by decide +kernel
theorem dL_difference_23 : decode cL_difference 23 = .ok (.iconst 2, 1) := by decide +kernel
theorem dL_difference_24 : decode cL_difference 24 = .ok (.ireturn, 1) := by decide +kernel
theorem dL_difference_25 : decode cL_difference 25 = .ok (.astore 6, 2) := by decide +kernel
theorem dL_difference_27 : decode cL_difference 27 = .ok (.iconst 3, 1) := by decide +kernel
theorem dL_difference_28 : decode cL_difference 28 = .ok (.ireturn, 1) := by decide +kernel
theorem dL_difference_29 : decode cL_difference 29 = .ok (.iconst 0, 1) := by decide +kernel
theorem dL_difference_30 : decode cL_difference 30 = .ok (.ireturn, 1) := by decide +kernel
theorem dL_compatible_0 : decode cL_compatible 0 = .ok (.aload_n 3, 1) := by decide +kernel
theorem dL_compatible_1 : decode cL_compatible 1 = .ok (.iconst 0, 1) := by decide +kernel
theorem dL_compatible_2 : decode cL_compatible 2 = .ok (.aload_n 0, 1) := by decide +kernel
theorem dL_compatible_3 : decode cL_compatible 3 = .ok (.iload_n 1, 1) := by decide +kernel
theorem dL_compatible_4 : decode cL_compatible 4 = .ok (.iload_n 2, 1) := by decide +kernel
theorem dL_compatible_5 : decode cL_compatible 5 = .ok (.invokevirtual 89, 3) := by decide +kernel
theorem dL_compatible_8 : decode cL_compatible 8 = .ok (.ifCond .eq 7, 3) := by decide +kernel
theorem dL_compatible_11 : decode cL_compatible 11 = .ok (.lconst 1, 1) := by decide +kernel
theorem dL_compatible_12 : decode cL_compatible 12 = .ok (.goto 4, 3) := by decide +kernel
theorem dL_compatible_15 : decode cL_compatible 15 = .ok (.lconst 0, 1) := by decide +kernel
theorem dL_compatible_16 : decode cL_compatible 16 = .ok (.lastore, 1) := by decide +kernel
theorem dL_compatible_17 : decode cL_compatible 17 = .ok (.goto 11, 3) := by decide +kernel
theorem dL_compatible_20 : decode cL_compatible 20 = .ok (.astore 4, 2) := by decide +kernel
theorem dL_compatible_22 : decode cL_compatible 22 = .ok (.iconst 1, 1) := by decide +kernel
theorem dL_compatible_23 : decode cL_compatible 23 = .ok (.ireturn, 1) := by decide +kernel
theorem dL_compatible_24 : decode cL_compatible 24 = .ok (.astore 4, 2) := by decide +kernel
theorem dL_compatible_26 : decode cL_compatible 26 = .ok (.iconst 2, 1) := by decide +kernel
theorem dL_compatible_27 : decode cL_compatible 27 = .ok (.ireturn, 1) := by decide +kernel
theorem dL_compatible_28 : decode cL_compatible 28 = .ok (.iconst 0, 1) := by decide +kernel
theorem dL_compatible_29 : decode cL_compatible 29 = .ok (.ireturn, 1) := by decide +kernel
theorem dL_look_0 : decode cL_look 0 = .ok (.aload_n 3, 1) := by decide +kernel
theorem dL_look_1 : decode cL_look 1 = .ok (.iconst 0, 1) := by decide +kernel
theorem dL_look_2 : decode cL_look 2 = .ok (.aload_n 0, 1) := by decide +kernel
theorem dL_look_3 : decode cL_look 3 = .ok (.iload_n 1, 1) := by decide +kernel
theorem dL_look_4 : decode cL_look 4 = .ok (.iload_n 2, 1) := by decide +kernel
theorem dL_look_5 : decode cL_look 5 = .ok (.invokevirtual 93, 3) := by decide +kernel
theorem dL_look_8 : decode cL_look 8 = .ok (.i2l, 1) := by decide +kernel
theorem dL_look_9 : decode cL_look 9 = .ok (.lastore, 1) := by decide +kernel
theorem dL_look_10 : decode cL_look 10 = .ok (.goto 7, 3) := by decide +kernel
theorem dL_look_13 : decode cL_look 13 = .ok (.astore 4, 2) := by decide +kernel
theorem dL_look_15 : decode cL_look 15 = .ok (.iconst 1, 1) := by decide +kernel
theorem dL_look_16 : decode cL_look 16 = .ok (.ireturn, 1) := by decide +kernel
theorem dL_look_17 : decode cL_look 17 = .ok (.iconst 0, 1) := by decide +kernel
theorem dL_look_18 : decode cL_look 18 = .ok (.ireturn, 1) := by decide +kernel
theorem dL_uses_0 : decode cL_uses 0 = .ok (.aload_n 2, 1) := by decide +kernel
theorem dL_uses_1 : decode cL_uses 1 = .ok (.iconst 0, 1) := by decide +kernel
theorem dL_uses_2 : decode cL_uses 2 = .ok (.aload_n 0, 1) := by decide +kernel
theorem dL_uses_3 : decode cL_uses 3 = .ok (.iload_n 1, 1) := by decide +kernel
theorem dL_uses_4 : decode cL_uses 4 = .ok (.invokevirtual 96, 3) := by decide +kernel
theorem dL_uses_7 : decode cL_uses 7 = .ok (.i2l, 1) := by decide +kernel
theorem dL_uses_8 : decode cL_uses 8 = .ok (.lastore, 1) := by decide +kernel
theorem dL_uses_9 : decode cL_uses 9 = .ok (.goto 6, 3) := by decide +kernel
theorem dL_uses_12 : decode cL_uses 12 = .ok (.astore_n 3, 1) := by decide +kernel
theorem dL_uses_13 : decode cL_uses 13 = .ok (.iconst 1, 1) := by decide +kernel
theorem dL_uses_14 : decode cL_uses 14 = .ok (.ireturn, 1) := by decide +kernel
theorem dL_uses_15 : decode cL_uses 15 = .ok (.iconst 0, 1) := by decide +kernel
theorem dL_uses_16 : decode cL_uses 16 = .ok (.ireturn, 1) := by decide +kernel
