theorem dX3_init_0 : decode cX3_init 0 = .ok (.aload_n 0, 1) := by decide +kernel
theorem dX3_init_1 : decode cX3_init 1 = .ok (.invokespecial 3, 3) := by decide +kernel
theorem dX3_init_4 : decode cX3_init 4 = .ok (.return_, 1) := by decide +kernel
theorem dX3_begin_0 : decode cX3_begin 0 = .ok (.aload_n 0, 1) := by decide +kernel
theorem dX3_begin_1 : decode cX3_begin 1 = .ok (.iload_n 1, 1) := by decide +kernel
theorem dX3_begin_2 : decode cX3_begin 2 = .ok (.iconst 1, 1) := by decide +kernel
theorem dX3_begin_3 : decode cX3_begin 3 = .ok (.if_icmp .ne 7, 3) := by decide +kernel
theorem dX3_begin_6 : decode cX3_begin 6 = .ok (.iconst 1, 1) := by decide +kernel
theorem dX3_begin_7 : decode cX3_begin 7 = .ok (.goto 4, 3) := by decide +kernel
theorem dX3_begin_10 : decode cX3_begin 10 = .ok (.iconst 0, 1) := by decide +kernel
theorem dX3_begin_11 : decode cX3_begin 11 = .ok (.putfield 9, 3) := by decide +kernel
theorem dX3_begin_14 : decode cX3_begin 14 = .ok (.aload_n 0, 1) := by decide +kernel
theorem dX3_begin_15 : decode cX3_begin 15 = .ok (.iload_n 1, 1) := by decide +kernel
theorem dX3_begin_16 : decode cX3_begin 16 = .ok (.iconst 2, 1) := by decide +kernel
theorem dX3_begin_17 : decode cX3_begin 17 = .ok (.if_icmp .ne 7, 3) := by decide +kernel
theorem dX3_begin_20 : decode cX3_begin 20 = .ok (.iconst 1, 1) := by decide +kernel
theorem dX3_begin_21 : decode cX3_begin 21 = .ok (.goto 4, 3) := by decide +kernel
theorem dX3_begin_24 : decode cX3_begin 24 = .ok (.iconst 0, 1) := by decide +kernel
theorem dX3_begin_25 : decode cX3_begin 25 = .ok (.putfield 15, 3) := by decide +kernel
theorem dX3_begin_28 : decode cX3_begin 28 = .ok (.aload_n 0, 1) := by decide +kernel
theorem dX3_begin_29 : decode cX3_begin 29 = .ok (.iload_n 2, 1) := by decide +kernel
theorem dX3_begin_30 : decode cX3_begin 30 = .ok (.putfield 18, 3) := by decide +kernel
theorem dX3_begin_33 : decode cX3_begin 33 = .ok (.aload_n 0, 1) := by decide +kernel
theorem dX3_begin_34 : decode cX3_begin 34 = .ok (.iload_n 3, 1) := by decide +kernel
theorem dX3_begin_35 : decode cX3_begin 35 = .ok (.putfield 22, 3) := by decide +kernel
theorem dX3_begin_38 : decode cX3_begin 38 = .ok (.aload_n 0, 1) := by decide +kernel
theorem dX3_begin_39 : decode cX3_begin 39 = .ok (.iload 4, 2) := by decide +kernel
theorem dX3_begin_41 : decode cX3_begin 41 = .ok (.putfield 25, 3) := by decide +kernel
theorem dX3_begin_44 : decode cX3_begin 44 = .ok (.aload_n 0, 1) := by decide +kernel
theorem dX3_begin_45 : decode cX3_begin 45 = .ok (.iload 5, 2) := by decide +kernel
theorem dX3_begin_47 : decode cX3_begin 47 = .ok (.putfield 28, 3) := by decide +kernel
theorem dX3_begin_50 : decode cX3_begin 50 = .ok (.return_, 1) := by decide +kernel
theorem dX3_takeFrom_0 : decode cX3_takeFrom 0 = .ok (.aload_n 0, 1) := by decide +kernel
theorem dX3_takeFrom_1 : decode cX3_takeFrom 1 = .ok (.aload_n 1, 1) := by decide +kernel
theorem dX3_takeFrom_2 : decode cX3_takeFrom 2 = .ok (.getfield 9, 3) := by decide +kernel
theorem dX3_takeFrom_5 : decode cX3_takeFrom 5 = .ok (.putfield 9, 3) := by decide +kernel
theorem dX3_takeFrom_8 : decode cX3_takeFrom 8 = .ok (.aload_n 0, 1) := by decide +kernel
theorem dX3_takeFrom_9 : decode cX3_takeFrom 9 = .ok (.aload_n 1, 1) := by decide +kernel
theorem dX3_takeFrom_10 : decode cX3_takeFrom 10 = .ok (.getfield 15, 3) := by decide +kernel
theorem dX3_takeFrom_13 : decode cX3_takeFrom 13 = .ok (.putfield 15, 3) := by decide +kernel
theorem dX3_takeFrom_16 : decode cX3_takeFrom 16 = .ok (.aload_n 0, 1) := by decide +kernel
theorem dX3_takeFrom_17 : decode cX3_takeFrom 17 = .ok (.aload_n 1, 1) := by decide +kernel
theorem dX3_takeFrom_18 : decode cX3_takeFrom 18 = .ok (.getfield 25, 3) := by decide +kernel
theorem dX3_takeFrom_21 : decode cX3_takeFrom 21 = .ok (.putfield 25, 3) := by decide +kernel
theorem dX3_takeFrom_24 : decode cX3_takeFrom 24 = .ok (.aload_n 0, 1) := by decide +kernel
theorem dX3_takeFrom_25 : decode cX3_takeFrom 25 = .ok (.aload_n 1, 1) := by decide +kernel
theorem dX3_takeFrom_26 : decode cX3_takeFrom 26 = .ok (.getfield 18, 3) := by decide +kernel
theorem dX3_takeFrom_29 : decode cX3_takeFrom 29 = .ok (.putfield 18, 3) := by decide +kernel
theorem dX3_takeFrom_32 : decode cX3_takeFrom 32 = .ok (.aload_n 0, 1) := by decide +kernel
theorem dX3_takeFrom_33 : decode cX3_takeFrom 33 = .ok (.aload_n 1, 1) := by decide +kernel
theorem dX3_takeFrom_34 : decode cX3_takeFrom 34 = .ok (.getfield 22, 3) := by decide +kernel
theorem dX3_takeFrom_37 : decode cX3_takeFrom 37 = .ok (.putfield 22, 3) := by decide +kernel
theorem dX3_takeFrom_40 : decode cX3_takeFrom 40 = .ok (.aload_n 0, 1) := by decide +kernel
theorem dX3_takeFrom_41 : decode cX3_takeFrom 41 = .ok (.aload_n 1, 1) := by decide +kernel
theorem dX3_takeFrom_42 : decode cX3_takeFrom 42 = .ok (.getfield 28, 3) := by decide +kernel
theorem dX3_takeFrom_45 : decode cX3_takeFrom 45 = .ok (.putfield 28, 3) := by decide +kernel
theorem dX3_takeFrom_48 : decode cX3_takeFrom 48 = .ok (.return_, 1) := by decide +kernel
theorem dX3_isAbstract_0 : decode cX3_isAbstract 0 = .ok (.aload_n 0, 1) := by decide +kernel
theorem dX3_isAbstract_1 : decode cX3_isAbstract 1 = .ok (.getfield 9, 3) := by decide +kernel
theorem dX3_isAbstract_4 : decode cX3_isAbstract 4 = .ok (.ifCond .eq 15, 3) := by decide +kernel
theorem dX3_isAbstract_7 : decode cX3_isAbstract 7 = .ok (.aload_n 0, 1) := by decide +kernel
theorem dX3_isAbstract_8 : decode cX3_isAbstract 8 = .ok (.getfield 28, 3) := by decide +kernel
theorem dX3_isAbstract_11 : decode cX3_isAbstract 11 = .ok (.iconst (-1), 1) := by decide +kernel
theorem dX3_isAbstract_12 : decode cX3_isAbstract 12 = .ok (.if_icmp .ne 7, 3) := by decide +kernel
theorem dX3_isAbstract_15 : decode cX3_isAbstract 15 = .ok (.iconst 1, 1) := by decide +kernel
theorem dX3_isAbstract_16 : decode cX3_isAbstract 16 = .ok (.goto 4, 3) := by decide +kernel
theorem dX3_isAbstract_19 : decode cX3_isAbstract 19 = .ok (.iconst 0, 1) := by decide +kernel
theorem dX3_isAbstract_20 : decode cX3_isAbstract 20 = .ok (.ireturn, 1) := by decide +kernel
theorem dX3_isHandedDown_0 : decode cX3_isHandedDown 0 = .ok (.aload_n 0, 1) := by decide +kernel
theorem dX3_isHandedDown_1 : decode cX3_isHandedDown 1 = .ok (.getfield 25, 3) := by decide +kernel
theorem dX3_isHandedDown_4 : decode cX3_isHandedDown 4 = .ok (.ifCond .ne 14, 3) := by decide +kernel
theorem dX3_isHandedDown_7 : decode cX3_isHandedDown 7 = .ok (.aload_n 0, 1) := by decide +kernel
theorem dX3_isHandedDown_8 : decode cX3_isHandedDown 8 = .ok (.getfield 22, 3) := by decide +kernel
theorem dX3_isHandedDown_11 : decode cX3_isHandedDown 11 = .ok (.ifCond .eq 7, 3) := by decide +kernel
theorem dX3_isHandedDown_14 : decode cX3_isHandedDown 14 = .ok (.iconst 1, 1) := by decide +kernel
theorem dX3_isHandedDown_15 : decode cX3_isHandedDown 15 = .ok (.goto 4, 3) := by decide +kernel
theorem dX3_isHandedDown_18 : decode cX3_isHandedDown 18 = .ok (.iconst 0, 1) := by decide +kernel
theorem dX3_isHandedDown_19 : decode cX3_isHandedDown 19 = .ok (.ireturn, 1) := by decide +kernel
theorem dX3_hasSameBody_0 : decode cX3_hasSameBody 0 = .ok (.aload_n 0, 1) := by decide +kernel
theorem dX3_hasSameBody_1 : decode cX3_hasSameBody 1 = .ok (.getfield 28, 3) := by decide +kernel
theorem dX3_hasSameBody_4 : decode cX3_hasSameBody 4 = .ok (.aload_n 1, 1) := by decide +kernel
theorem dX3_hasSameBody_5 : decode cX3_hasSameBody 5 = .ok (.getfield 28, 3) := by decide +kernel
theorem dX3_hasSameBody_8 : decode cX3_hasSameBody 8 = .ok (.if_icmp .ne 18, 3) := by decide +kernel
theorem dX3_hasSameBody_11 : decode cX3_hasSameBody 11 = .ok (.aload_n 0, 1) := by decide +kernel
theorem dX3_hasSameBody_12 : decode cX3_hasSameBody 12 = .ok (.getfield 15, 3) := by decide +kernel
theorem dX3_hasSameBody_15 : decode cX3_hasSameBody 15 = .ok (.aload_n 1, 1) := by decide +kernel
theorem dX3_hasSameBody_16 : decode cX3_hasSameBody 16 = .ok (.getfield 15, 3) := by decide +kernel
theorem dX3_hasSameBody_19 : decode cX3_hasSameBody 19 = .ok (.if_icmp .ne 7, 3) := by decide +kernel
theorem dX3_hasSameBody_22 : decode cX3_hasSameBody 22 = .ok (.iconst 1, 1) := by decide +kernel
theorem dX3_hasSameBody_23 : decode cX3_hasSameBody 23 = .ok (.goto 4, 3) := by decide +kernel
theorem dX3_hasSameBody_26 : decode cX3_hasSameBody 26 = .ok (.iconst 0, 1) := by decide +kernel
theorem dX3_hasSameBody_27 : decode cX3_hasSameBody 27 = .ok (.ireturn, 1) := by decide +kernel
theorem dX3_isLike_0 : decode cX3_isLike 0 = .ok (.aload_n 0, 1) := by decide +kernel
theorem dX3_isLike_1 : decode cX3_isLike 1 = .ok (.getfield 9, 3) := by decide +kernel
theorem dX3_isLike_4 : decode cX3_isLike 4 = .ok (.aload_n 1, 1) := by decide +kernel
theorem dX3_isLike_5 : decode cX3_isLike 5 = .ok (.getfield 9, 3) := by decide +kernel
theorem dX3_isLike_8 : decode cX3_isLike 8 = .ok (.if_icmp .ne 37, 3) := by decide +kernel
theorem dX3_isLike_11 : decode cX3_isLike 11 = .ok (.aload_n 0, 1) := by decide +kernel
theorem dX3_isLike_12 : decode cX3_isLike 12 = .ok (.getfield 18, 3) := by decide +kernel
theorem dX3_isLike_15 : decode cX3_isLike 15 = .ok (.aload_n 1, 1) := by decide +kernel
theorem dX3_isLike_16 : decode cX3_isLike 16 = .ok (.getfield 18, 3) := by decide +kernel
theorem dX3_isLike_19 : decode cX3_isLike 19 = .ok (.if_icmp .ne 26, 3) := by decide +kernel
theorem dX3_isLike_22 : decode cX3_isLike 22 = .ok (.aload_n 0, 1) := by decide +kernel
theorem dX3_isLike_23 : decode cX3_isLike 23 = .ok (.getfield 25, 3) := by decide +kernel
theorem dX3_isLike_26 : decode cX3_isLike 26 = .ok (.aload_n 1, 1) := by decide +kernel
theorem dX3_isLike_27 : decode cX3_isLike 27 = .ok (.getfield 25, 3) := by decide +kernel
theorem dX3_isLike_30 : decode cX3_isLike 30 = .ok (.if_icmp .ne 15, 3) := by decide +kernel
theorem dX3_isLike_33 : decode cX3_isLike 33 = .ok (.aload_n 0, 1) := by decide +kernel
theorem dX3_isLike_34 : decode cX3_isLike 34 = .ok (.aload_n 1, 1) := by decide +kernel
theorem dX3_isLike_35 : decode cX3_isLike 35 = .ok (.invokevirtual 31, 3) := by decide +kernel
theorem dX3_isLike_38 : decode cX3_isLike 38 = .ok (.ifCond .eq 7, 3) := by decide +kernel
theorem dX3_isLike_41 : decode cX3_isLike 41 = .ok (.iconst 1, 1) := by decide +kernel
theorem dX3_isLike_42 : decode cX3_isLike 42 = .ok (.goto 4, 3) := by decide +kernel
theorem dX3_isLike_45 : decode cX3_isLike 45 = .ok (.iconst 0, 1) := by decide +kernel
theorem dX3_isLike_46 : decode cX3_isLike 46 = .ok (.ireturn, 1) := by decide +kernel
