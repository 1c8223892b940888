theorem dX2_readBy_62 : decode cX2_readBy 62 = .ok (.iload_n 2, 1) := by decide +kernel
theorem dX2_readBy_63 : decode cX2_readBy 63 = .ok (.ireturn, 1) := by decide +kernel
theorem dX2_stepAt_0 : decode cX2_stepAt 0 = .ok (.iload_n 1, 1) := by decide +kernel
theorem dX2_stepAt_1 : decode cX2_stepAt 1 = .ok (.ifCond .lt 18, 3) := by decide +kernel
theorem dX2_stepAt_4 : decode cX2_stepAt 4 = .ok (.iload_n 1, 1) := by decide +kernel
theorem dX2_stepAt_5 : decode cX2_stepAt 5 = .ok (.bipush 6, 2) := by decide +kernel
theorem dX2_stepAt_7 : decode cX2_stepAt 7 = .ok (.if_icmp .ge 12, 3) := by decide +kernel
theorem dX2_stepAt_10 : decode cX2_stepAt 10 = .ok (.aload_n 0, 1) := by decide +kernel
theorem dX2_stepAt_11 : decode cX2_stepAt 11 = .ok (.getfield 21, 3) := by decide +kernel
theorem dX2_stepAt_14 : decode cX2_stepAt 14 = .ok (.iload_n 1, 1) := by decide +kernel
theorem dX2_stepAt_15 : decode cX2_stepAt 15 = .ok (.iaload, 1) := by decide +kernel
theorem dX2_stepAt_16 : decode cX2_stepAt 16 = .ok (.goto 4, 3) := by decide +kernel
theorem dX2_stepAt_19 : decode cX2_stepAt 19 = .ok (.iconst 0, 1) := by decide +kernel
theorem dX2_stepAt_20 : decode cX2_stepAt 20 = .ok (.ireturn, 1) := by decide +kernel
theorem dX2_lastOf_0 : decode cX2_lastOf 0 = .ok (.iload_n 1, 1) := by decide +kernel
theorem dX2_lastOf_1 : decode cX2_lastOf 1 = .ok (.ifCond .lt 8, 3) := by decide +kernel
theorem dX2_lastOf_4 : decode cX2_lastOf 4 = .ok (.iload_n 1, 1) := by decide +kernel
theorem dX2_lastOf_5 : decode cX2_lastOf 5 = .ok (.iconst 4, 1) := by decide +kernel
theorem dX2_lastOf_6 : decode cX2_lastOf 6 = .ok (.if_icmp .lt 5, 3) := by decide +kernel
theorem dX2_lastOf_9 : decode cX2_lastOf 9 = .ok (.iconst 0, 1) := by decide +kernel
theorem dX2_lastOf_10 : decode cX2_lastOf 10 = .ok (.ireturn, 1) := by decide +kernel
theorem dX2_lastOf_11 : decode cX2_lastOf 11 = .ok (.iload_n 2, 1) := by decide +kernel
theorem dX2_lastOf_12 : decode cX2_lastOf 12 = .ok (.ifCond .eq 12, 3) := by decide +kernel
theorem dX2_lastOf_15 : decode cX2_lastOf 15 = .ok (.aload_n 0, 1) := by decide +kernel
theorem dX2_lastOf_16 : decode cX2_lastOf 16 = .ok (.getfield 15, 3) := by decide +kernel
theorem dX2_lastOf_19 : decode cX2_lastOf 19 = .ok (.iload_n 1, 1) := by decide +kernel
theorem dX2_lastOf_20 : decode cX2_lastOf 20 = .ok (.iaload, 1) := by decide +kernel
theorem dX2_lastOf_21 : decode cX2_lastOf 21 = .ok (.goto 9, 3) := by decide +kernel
theorem dX2_lastOf_24 : decode cX2_lastOf 24 = .ok (.aload_n 0, 1) := by decide +kernel
theorem dX2_lastOf_25 : decode cX2_lastOf 25 = .ok (.getfield 9, 3) := by decide +kernel
theorem dX2_lastOf_28 : decode cX2_lastOf 28 = .ok (.iload_n 1, 1) := by decide +kernel
theorem dX2_lastOf_29 : decode cX2_lastOf 29 = .ok (.iaload, 1) := by decide +kernel
theorem dX2_lastOf_30 : decode cX2_lastOf 30 = .ok (.ireturn, 1) := by decide +kernel
theorem dX2_differing_0 : decode cX2_differing 0 = .ok (.iconst 0, 1) := by decide +kernel
theorem dX2_differing_1 : decode cX2_differing 1 = .ok (.istore_n 1, 1) := by decide +kernel
theorem dX2_differing_2 : decode cX2_differing 2 = .ok (.iconst 0, 1) := by decide +kernel
theorem dX2_differing_3 : decode cX2_differing 3 = .ok (.istore_n 2, 1) := by decide +kernel
theorem dX2_differing_4 : decode cX2_differing 4 = .ok (.iload_n 2, 1) := by decide +kernel
theorem dX2_differing_5 : decode cX2_differing 5 = .ok (.iconst 4, 1) := by decide +kernel
theorem dX2_differing_6 : decode cX2_differing 6 = .ok (.if_icmp .ge 30, 3) := by decide +kernel
theorem dX2_differing_9 : decode cX2_differing 9 = .ok (.aload_n 0, 1) := by decide +kernel
theorem dX2_differing_10 : decode cX2_differing 10 = .ok (.getfield 9, 3) := by decide +kernel
theorem dX2_differing_13 : decode cX2_differing 13 = .ok (.iload_n 2, 1) := by decide +kernel
theorem dX2_differing_14 : decode cX2_differing 14 = .ok (.iaload, 1) := by decide +kernel
theorem dX2_differing_15 : decode cX2_differing 15 = .ok (.aload_n 0, 1) := by decide +kernel
theorem dX2_differing_16 : decode cX2_differing 16 = .ok (.getfield 15, 3) := by decide +kernel
theorem dX2_differing_19 : decode cX2_differing 19 = .ok (.iload_n 2, 1) := by decide +kernel
theorem dX2_differing_20 : decode cX2_differing 20 = .ok (.iaload, 1) := by decide +kernel
theorem dX2_differing_21 : decode cX2_differing 21 = .ok (.if_icmp .eq 9, 3) := by decide +kernel
theorem dX2_differing_24 : decode cX2_differing 24 = .ok (.iload_n 1, 1) := by decide +kernel
theorem dX2_differing_25 : decode cX2_differing 25 = .ok (.iconst 1, 1) := by decide +kernel
theorem dX2_differing_26 : decode cX2_differing 26 = .ok (.iload_n 2, 1) := by decide +kernel
theorem dX2_differing_27 : decode cX2_differing 27 = .ok (.ishl, 1) := by decide +kernel
theorem dX2_differing_28 : decode cX2_differing 28 = .ok (.ior, 1) := by decide +kernel
theorem dX2_differing_29 : decode cX2_differing 29 = .ok (.istore_n 1, 1) := by decide +kernel
theorem dX2_differing_30 : decode cX2_differing 30 = .ok (.iinc 2 1, 3) := by decide +kernel
theorem dX2_differing_33 : decode cX2_differing 33 = .ok (.goto (-29), 3) := by decide +kernel
theorem dX2_differing_36 : decode cX2_differing 36 = .ok (.iload_n 1, 1) := by decide +kernel
theorem dX2_differing_37 : decode cX2_differing 37 = .ok (.ireturn, 1) := by decide +kernel
theorem dX3_init_0 : decode cX3_init 0 = .ok (.aload_n 0, 1) := by decide +kernel
theorem dX3_init_1 : decode cX3_init 1 = .ok (.invokespecial 3, 3) := by decide +kernel
theorem dX3_init_4 : decode cX3_init 4 = .ok (.aload_n 0, 1) := by decide +kernel
theorem dX3_init_5 : decode cX3_init 5 = .ok (.bipush 10, 2) := by decide +kernel
theorem dX3_init_7 : decode cX3_init 7 = .ok (.anewarray 9, 3) := by decide +kernel
theorem dX3_init_10 : decode cX3_init 10 = .ok (.putfield 11, 3) := by decide +kernel
theorem dX3_init_13 : decode cX3_init 13 = .ok (.iconst 0, 1) := by decide +kernel
theorem dX3_init_14 : decode cX3_init 14 = .ok (.istore_n 1, 1) := by decide +kernel
theorem dX3_init_15 : decode cX3_init 15 = .ok (.iload_n 1, 1) := by decide +kernel
theorem dX3_init_16 : decode cX3_init 16 = .ok (.bipush 10, 2) := by decide +kernel
theorem dX3_init_18 : decode cX3_init 18 = .ok (.if_icmp .ge 22, 3) := by decide +kernel
theorem dX3_init_21 : decode cX3_init 21 = .ok (.aload_n 0, 1) := by decide +kernel
theorem dX3_init_22 : decode cX3_init 22 = .ok (.getfield 11, 3) := by decide +kernel
theorem dX3_init_25 : decode cX3_init 25 = .ok (.iload_n 1, 1) := by decide +kernel
theorem dX3_init_26 : decode cX3_init 26 = .ok (.new 9, 3) := by decide +kernel
theorem dX3_init_29 : decode cX3_init 29 = .ok (.dup, 1) := by decide +kernel
theorem dX3_init_30 : decode cX3_init 30 = .ok (.invokespecial 17, 3) := by decide +kernel
theorem dX3_init_33 : decode cX3_init 33 = .ok (.aastore, 1) := by decide +kernel
theorem dX3_init_34 : decode cX3_init 34 = .ok (.iinc 1 1, 3) := by decide +kernel
theorem dX3_init_37 : decode cX3_init 37 = .ok (.goto (-22), 3) := by decide +kernel
theorem dX3_init_40 : decode cX3_init 40 = .ok (.return_, 1) := by decide +kernel
theorem dX3_forgetAll_0 : decode cX3_forgetAll 0 = .ok (.aload_n 0, 1) := by decide +kernel
theorem dX3_forgetAll_1 : decode cX3_forgetAll 1 = .ok (.iconst 0, 1) := by decide +kernel
theorem dX3_forgetAll_2 : decode cX3_forgetAll 2 = .ok (.putfield 18, 3) := by decide +kernel
theorem dX3_forgetAll_5 : decode cX3_forgetAll 5 = .ok (.return_, 1) := by decide +kernel
theorem dX3_remember_0 : decode cX3_remember 0 = .ok (.aload_n 0, 1) := by decide +kernel
theorem dX3_remember_1 : decode cX3_remember 1 = .ok (.getfield 18, 3) := by decide +kernel
theorem dX3_remember_4 : decode cX3_remember 4 = .ok (.bipush 10, 2) := by decide +kernel
theorem dX3_remember_6 : decode cX3_remember 6 = .ok (.if_icmp .lt 7, 3) := by decide +kernel
theorem dX3_remember_9 : decode cX3_remember 9 = .ok (.aload_n 0, 1) := by decide +kernel
theorem dX3_remember_10 : decode cX3_remember 10 = .ok (.invokevirtual 22, 3) := by decide +kernel
theorem dX3_remember_13 : decode cX3_remember 13 = .ok (.aload_n 0, 1) := by decide +kernel
theorem dX3_remember_14 : decode cX3_remember 14 = .ok (.getfield 18, 3) := by decide +kernel
theorem dX3_remember_17 : decode cX3_remember 17 = .ok (.ifCond .lt 35, 3) := by decide +kernel
theorem dX3_remember_20 : decode cX3_remember 20 = .ok (.aload_n 0, 1) := by decide +kernel
theorem dX3_remember_21 : decode cX3_remember 21 = .ok (.getfield 18, 3) := by decide +kernel
theorem dX3_remember_24 : decode cX3_remember 24 = .ok (.bipush 10, 2) := by decide +kernel
theorem dX3_remember_26 : decode cX3_remember 26 = .ok (.if_icmp .ge 26, 3) := by decide +kernel
theorem dX3_remember_29 : decode cX3_remember 29 = .ok (.aload_n 0, 1) := by decide +kernel
theorem dX3_remember_30 : decode cX3_remember 30 = .ok (.getfield 11, 3) := by decide +kernel
theorem dX3_remember_33 : decode cX3_remember 33 = .ok (.aload_n 0, 1) := by decide +kernel
theorem dX3_remember_34 : decode cX3_remember 34 = .ok (.getfield 18, 3) := by decide +kernel
theorem dX3_remember_37 : decode cX3_remember 37 = .ok (.aaload, 1) := by decide +kernel
theorem dX3_remember_38 : decode cX3_remember 38 = .ok (.aload_n 1, 1) := by decide +kernel
theorem dX3_remember_39 : decode cX3_remember 39 = .ok (.invokevirtual 25, 3) := by decide +kernel
theorem dX3_remember_42 : decode cX3_remember 42 = .ok (.aload_n 0, 1) := by decide +kernel
theorem dX3_remember_43 : decode cX3_remember 43 = .ok (.dup, 1) := by decide +kernel
theorem dX3_remember_44 : decode cX3_remember 44 = .ok (.getfield 18, 3) := by decide +kernel
theorem dX3_remember_47 : decode cX3_remember 47 = .ok (.iconst 1, 1) := by decide +kernel
theorem dX3_remember_48 : decode cX3_remember 48 = .ok (.iadd, 1) := by decide +kernel
theorem dX3_remember_49 : decode cX3_remember 49 = .ok (.putfield 18, 3) := by decide +kernel
theorem dX3_remember_52 : decode cX3_remember 52 = .ok (.return_, 1) := by decide +kernel
theorem dX3_dropOldest_0 : decode cX3_dropOldest 0 = .ok (.aload_n 0, 1) := by decide +kernel
theorem dX3_dropOldest_1 : decode cX3_dropOldest 1 = .ok (.getfield 11, 3) := by decide +kernel
theorem dX3_dropOldest_4 : decode cX3_dropOldest 4 = .ok (.iconst 0, 1) := by decide +kernel
theorem dX3_dropOldest_5 : decode cX3_dropOldest 5 = .ok (.aaload, 1) := by decide +kernel
theorem dX3_dropOldest_6 : decode cX3_dropOldest 6 = .ok (.astore_n 1, 1) := by decide +kernel
theorem dX3_dropOldest_7 : decode cX3_dropOldest 7 = .ok (.iconst 1, 1) := by decide +kernel
theorem dX3_dropOldest_8 : decode cX3_dropOldest 8 = .ok (.istore_n 2, 1) := by decide +kernel
theorem dX3_dropOldest_9 : decode cX3_dropOldest 9 = .ok (.iload_n 2, 1) := by decide +kernel
theorem dX3_dropOldest_10 : decode cX3_dropOldest 10 = .ok (.bipush 10, 2) := by decide +kernel
theorem dX3_dropOldest_12 : decode cX3_dropOldest 12 = .ok (.if_icmp .ge 23, 3) := by decide +kernel
theorem dX3_dropOldest_15 : decode cX3_dropOldest 15 = .ok (.aload_n 0, 1) := by decide +kernel
theorem dX3_dropOldest_16 : decode cX3_dropOldest 16 = .ok (.getfield 11, 3) := by decide +kernel
theorem dX3_dropOldest_19 : decode cX3_dropOldest 19 = .ok (.iload_n 2, 1) := by decide +kernel
theorem dX3_dropOldest_20 : decode cX3_dropOldest 20 = .ok (.iconst 1, 1) := by decide +kernel
theorem dX3_dropOldest_21 : decode cX3_dropOldest 21 = .ok (.isub, 1) := by decide +kernel
theorem dX3_dropOldest_22 : decode cX3_dropOldest 22 = .ok (.aload_n 0, 1) := by decide +kernel
theorem dX3_dropOldest_23 : decode cX3_dropOldest 23 = .ok (.getfield 11, 3) := by decide +kernel
theorem dX3_dropOldest_26 : decode cX3_dropOldest 26 = .ok (.iload_n 2, 1) := by decide +kernel
theorem dX3_dropOldest_27 : decode cX3_dropOldest 27 = .ok (.aaload, 1) := by decide +kernel
theorem dX3_dropOldest_28 : decode cX3_dropOldest 28 = .ok (.aastore, 1) := by decide +kernel
theorem dX3_dropOldest_29 : decode cX3_dropOldest 29 = .ok (.iinc 2 1, 3) := by decide +kernel
theorem dX3_dropOldest_32 : decode cX3_dropOldest 32 = .ok (.goto (-23), 3) := by decide +kernel
theorem dX3_dropOldest_35 : decode cX3_dropOldest 35 = .ok (.aload_n 0, 1) := by decide +kernel
theorem dX3_dropOldest_36 : decode cX3_dropOldest 36 = .ok (.getfield 11, 3) := by decide +kernel
theorem dX3_dropOldest_39 : decode cX3_dropOldest 39 = .ok (.bipush 9, 2) := by decide +kernel
theorem dX3_dropOldest_41 : decode cX3_dropOldest 41 = .ok (.aload_n 1, 1) := by decide +kernel
theorem dX3_dropOldest_42 : decode cX3_dropOldest 42 = .ok (.aastore, 1) := by decide +kernel
theorem dX3_dropOldest_43 : decode cX3_dropOldest 43 = .ok (.aload_n 0, 1) := by decide +kernel
theorem dX3_dropOldest_44 : decode cX3_dropOldest 44 = .ok (.bipush 9, 2) := by decide +kernel
theorem dX3_dropOldest_46 : decode cX3_dropOldest 46 = .ok (.putfield 18, 3) := by decide +kernel
theorem dX3_dropOldest_49 : decode cX3_dropOldest 49 = .ok (.return_, 1) := by decide +kernel
theorem dX3_restoreLatest_0 : decode cX3_restoreLatest 0 = .ok (.aload_n 0, 1) := by decide +kernel
theorem dX3_restoreLatest_1 : decode cX3_restoreLatest 1 = .ok (.getfield 18, 3) := by decide +kernel
theorem dX3_restoreLatest_4 : decode cX3_restoreLatest 4 = .ok (.ifCond .le 35, 3) := by decide +kernel
theorem dX3_restoreLatest_7 : decode cX3_restoreLatest 7 = .ok (.aload_n 0, 1) := by decide +kernel
theorem dX3_restoreLatest_8 : decode cX3_restoreLatest 8 = .ok (.getfield 18, 3) := by decide +kernel
theorem dX3_restoreLatest_11 : decode cX3_restoreLatest 11 = .ok (.bipush 10, 2) := by decide +kernel
theorem dX3_restoreLatest_13 : decode cX3_restoreLatest 13 = .ok (.if_icmp .gt 26, 3) := by decide +kernel
theorem dX3_restoreLatest_16 : decode cX3_restoreLatest 16 = .ok (.aload_n 0, 1) := by decide +kernel
theorem dX3_restoreLatest_17 : decode cX3_restoreLatest 17 = .ok (.dup, 1) := by decide +kernel
theorem dX3_restoreLatest_18 : decode cX3_restoreLatest 18 = .ok (.getfield 18, 3) := by decide +kernel
theorem dX3_restoreLatest_21 : decode cX3_restoreLatest 21 = .ok (.iconst 1, 1) := by decide +kernel
theorem dX3_restoreLatest_22 : decode cX3_restoreLatest 22 = .ok (.isub, 1) := by decide +kernel
theorem dX3_restoreLatest_23 : decode cX3_restoreLatest 23 = .ok (.putfield 18, 3) := by decide +kernel
theorem dX3_restoreLatest_26 : decode cX3_restoreLatest 26 = .ok (.aload_n 1, 1) := by decide +kernel
theorem dX3_restoreLatest_27 : decode cX3_restoreLatest 27 = .ok (.aload_n 0, 1) := by decide +kernel
theorem dX3_restoreLatest_28 : decode cX3_restoreLatest 28 = .ok (.getfield 11, 3) := by decide +kernel
theorem dX3_restoreLatest_31 : decode cX3_restoreLatest 31 = .ok (.aload_n 0, 1) := by decide +kernel
theorem dX3_restoreLatest_32 : decode cX3_restoreLatest 32 = .ok (.getfield 18, 3) := by decide +kernel
theorem dX3_restoreLatest_35 : decode cX3_restoreLatest 35 = .ok (.aaload, 1) := by decide +kernel
theorem dX3_restoreLatest_36 : decode cX3_restoreLatest 36 = .ok (.invokevirtual 25, 3) := by decide +kernel
theorem dX3_restoreLatest_39 : decode cX3_restoreLatest 39 = .ok (.return_, 1) := by decide +kernel
theorem dX4_init_0 : decode cX4_init 0 = .ok (.aload_n 0, 1) := by decide +kernel
theorem dX4_init_1 : decode cX4_init 1 = .ok (.invokespecial 3, 3) := by decide +kernel
theorem dX4_init_4 : decode cX4_init 4 = .ok (.aload_n 0, 1) := by decide +kernel
theorem dX4_init_5 : decode cX4_init 5 = .ok (.invokevirtual 9, 3) := by decide +kernel
theorem dX4_init_8 : decode cX4_init 8 = .ok (.return_, 1) := by decide +kernel
theorem dX4_setFirst_0 : decode cX4_setFirst 0 = .ok (.aload_n 0, 1) := by decide +kernel
theorem dX4_setFirst_1 : decode cX4_setFirst 1 = .ok (.iconst 2, 1) := by decide +kernel
theorem dX4_setFirst_2 : decode cX4_setFirst 2 = .ok (.iconst 0, 1) := by decide +kernel
theorem dX4_setFirst_3 : decode cX4_setFirst 3 = .ok (.iconst 0, 1) := by decide +kernel
theorem dX4_setFirst_4 : decode cX4_setFirst 4 = .ok (.invokevirtual 14, 3) := by decide +kernel
theorem dX4_setFirst_7 : decode cX4_setFirst 7 = .ok (.return_, 1) := by decide +kernel
theorem dX4_set_0 : decode cX4_set 0 = .ok (.aload_n 0, 1) := by decide +kernel
theorem dX4_set_1 : decode cX4_set 1 = .ok (.iload_n 1, 1) := by decide +kernel
theorem dX4_set_2 : decode cX4_set 2 = .ok (.putfield 18, 3) := by decide +kernel
theorem dX4_set_5 : decode cX4_set 5 = .ok (.aload_n 0, 1) := by decide +kernel
theorem dX4_set_6 : decode cX4_set 6 = .ok (.iload_n 2, 1) := by decide +kernel
theorem dX4_set_7 : decode cX4_set 7 = .ok (.putfield 22, 3) := by decide +kernel
theorem dX4_set_10 : decode cX4_set 10 = .ok (.aload_n 0, 1) := by decide +kernel
theorem dX4_set_11 : decode cX4_set 11 = .ok (.iload_n 3, 1) := by decide +kernel
theorem dX4_set_12 : decode cX4_set 12 = .ok (.putfield 25, 3) := by decide +kernel
theorem dX4_set_15 : decode cX4_set 15 = .ok (.return_, 1) := by decide +kernel
theorem dX4_copyFrom_0 : decode cX4_copyFrom 0 = .ok (.aload_n 0, 1) := by decide +kernel
theorem dX4_copyFrom_1 : decode cX4_copyFrom 1 = .ok (.aload_n 1, 1) := by decide +kernel
theorem dX4_copyFrom_2 : decode cX4_copyFrom 2 = .ok (.getfield 18, 3) := by decide +kernel
theorem dX4_copyFrom_5 : decode cX4_copyFrom 5 = .ok (.aload_n 1, 1) := by decide +kernel
theorem dX4_copyFrom_6 : decode cX4_copyFrom 6 = .ok (.getfield 22, 3) := by decide +kernel
theorem dX4_copyFrom_9 : decode cX4_copyFrom 9 = .ok (.aload_n 1, 1) := by decide +kernel
theorem dX4_copyFrom_10 : decode cX4_copyFrom 10 = .ok (.getfield 25, 3) := by decide +kernel
theorem dX4_copyFrom_13 : decode cX4_copyFrom 13 = .ok (.invokevirtual 14, 3) := by decide +kernel
theorem dX4_copyFrom_16 : decode cX4_copyFrom 16 = .ok (.return_, 1) := by decide +kernel
theorem dX4_is_0 : decode cX4_is 0 = .ok (.aload_n 0, 1) := by decide +kernel
theorem dX4_is_1 : decode cX4_is 1 = .ok (.getfield 18, 3) := by decide +kernel
theorem dX4_is_4 : decode cX4_is 4 = .ok (.iload_n 1, 1) := by decide +kernel
theorem dX4_is_5 : decode cX4_is 5 = .ok (.if_icmp .ne 23, 3) := by decide +kernel
theorem dX4_is_8 : decode cX4_is 8 = .ok (.aload_n 0, 1) := by decide +kernel
theorem dX4_is_9 : decode cX4_is 9 = .ok (.getfield 22, 3) := by decide +kernel
theorem dX4_is_12 : decode cX4_is 12 = .ok (.iload_n 2, 1) := by decide +kernel
theorem dX4_is_13 : decode cX4_is 13 = .ok (.if_icmp .ne 15, 3) := by decide +kernel
theorem dX4_is_16 : decode cX4_is 16 = .ok (.aload_n 0, 1) := by decide +kernel
theorem dX4_is_17 : decode cX4_is 17 = .ok (.getfield 25, 3) := by decide +kernel
theorem dX4_is_20 : decode cX4_is 20 = .ok (.iload_n 3, 1) := by decide +kernel
theorem dX4_is_21 : decode cX4_is 21 = .ok (.if_icmp .ne 7, 3) := by decide +kernel
theorem dX4_is_24 : decode cX4_is 24 = .ok (.iconst 1, 1) := by decide +kernel
theorem dX4_is_25 : decode cX4_is 25 = .ok (.goto 4, 3) := by decide +kernel
theorem dX4_is_28 : decode cX4_is 28 = .ok (.iconst 0, 1) := by decide +kernel
theorem dX4_is_29 : decode cX4_is 29 = .ok (.ireturn, 1) := by decide +kernel
theorem dX4_shows_0 : decode cX4_shows 0 = .ok (.iload_n 1, 1) := by decide +kernel
theorem dX4_shows_1 : decode cX4_shows 1 = .ok (.aload_n 0, 1) := by decide +kernel
theorem dX4_shows_2 : decode cX4_shows 2 = .ok (.getfield 18, 3) := by decide +kernel
theorem dX4_shows_5 : decode cX4_shows 5 = .ok (.if_icmp .gt 27, 3) := by decide +kernel
theorem dX4_shows_8 : decode cX4_shows 8 = .ok (.iload_n 1, 1) := by decide +kernel
theorem dX4_shows_9 : decode cX4_shows 9 = .ok (.iconst 1, 1) := by decide +kernel
theorem dX4_shows_10 : decode cX4_shows 10 = .ok (.if_icmp .lt 26, 3) := by decide +kernel
theorem dX4_shows_13 : decode cX4_shows 13 = .ok (.iload_n 1, 1) := by decide +kernel
theorem dX4_shows_14 : decode cX4_shows 14 = .ok (.iconst 3, 1) := by decide +kernel
theorem dX4_shows_15 : decode cX4_shows 15 = .ok (.if_icmp .gt 21, 3) := by decide +kernel
theorem dX4_shows_18 : decode cX4_shows 18 = .ok (.aload_n 0, 1) := by decide +kernel
theorem dX4_shows_19 : decode cX4_shows 19 = .ok (.getfield 22, 3) := by decide +kernel
theorem dX4_shows_22 : decode cX4_shows 22 = .ok (.iload_n 1, 1) := by decide +kernel
theorem dX4_shows_23 : decode cX4_shows 23 = .ok (.iconst 1, 1) := by decide +kernel
theorem dX4_shows_24 : decode cX4_shows 24 = .ok (.isub, 1) := by decide +kernel
theorem dX4_shows_25 : decode cX4_shows 25 = .ok (.ishr, 1) := by decide +kernel
theorem dX4_shows_26 : decode cX4_shows 26 = .ok (.iconst 1, 1) := by decide +kernel
theorem dX4_shows_27 : decode cX4_shows 27 = .ok (.iand, 1) := by decide +kernel
theorem dX4_shows_28 : decode cX4_shows 28 = .ok (.iconst 1, 1) := by decide +kernel
theorem dX4_shows_29 : decode cX4_shows 29 = .ok (.if_icmp .ne 7, 3) := by decide +kernel
theorem dX4_shows_32 : decode cX4_shows 32 = .ok (.iconst 1, 1) := by decide +kernel
theorem dX4_shows_33 : decode cX4_shows 33 = .ok (.goto 4, 3) := by decide +kernel
theorem dX4_shows_36 : decode cX4_shows 36 = .ok (.iconst 0, 1) := by decide +kernel
theorem dX4_shows_37 : decode cX4_shows 37 = .ok (.ireturn, 1) := by decide +kernel
theorem dX4_hidesNothing_0 : decode cX4_hidesNothing 0 = .ok (.iconst 1, 1) := by decide +kernel
theorem dX4_hidesNothing_1 : decode cX4_hidesNothing 1 = .ok (.aload_n 0, 1) := by decide +kernel
theorem dX4_hidesNothing_2 : decode cX4_hidesNothing 2 = .ok (.getfield 18, 3) := by decide +kernel
theorem dX4_hidesNothing_5 : decode cX4_hidesNothing 5 = .ok (.ishl, 1) := by decide +kernel
theorem dX4_hidesNothing_6 : decode cX4_hidesNothing 6 = .ok (.iconst 1, 1) := by decide +kernel
theorem dX4_hidesNothing_7 : decode cX4_hidesNothing 7 = .ok (.isub, 1) := by decide +kernel
theorem dX4_hidesNothing_8 : decode cX4_hidesNothing 8 = .ok (.istore_n 1, 1) := by decide +kernel
theorem dX4_hidesNothing_9 : decode cX4_hidesNothing 9 = .ok (.aload_n 0, 1) := by decide +kernel
theorem dX4_hidesNothing_10 : decode cX4_hidesNothing 10 = .ok (.getfield 25, 3) := by decide +kernel
theorem dX4_hidesNothing_13 : decode cX4_hidesNothing 13 = .ok (.iconst 1, 1) := by decide +kernel
theorem dX4_hidesNothing_14 : decode cX4_hidesNothing 14 = .ok (.if_icmp .eq 13, 3) := by decide +kernel
theorem dX4_hidesNothing_17 : decode cX4_hidesNothing 17 = .ok (.aload_n 0, 1) := by decide +kernel
theorem dX4_hidesNothing_18 : decode cX4_hidesNothing 18 = .ok (.getfield 22, 3) := by decide +kernel
theorem dX4_hidesNothing_21 : decode cX4_hidesNothing 21 = .ok (.iload_n 1, 1) := by decide +kernel
theorem dX4_hidesNothing_22 : decode cX4_hidesNothing 22 = .ok (.iand, 1) := by decide +kernel
theorem dX4_hidesNothing_23 : decode cX4_hidesNothing 23 = .ok (.iload_n 1, 1) := by decide +kernel
theorem dX4_hidesNothing_24 : decode cX4_hidesNothing 24 = .ok (.if_icmp .ne 7, 3) := by decide +kernel
theorem dX4_hidesNothing_27 : decode cX4_hidesNothing 27 = .ok (.iconst 1, 1) := by decide +kernel
theorem dX4_hidesNothing_28 : decode cX4_hidesNothing 28 = .ok (.goto 4, 3) := by decide +kernel
theorem dX4_hidesNothing_31 : decode cX4_hidesNothing 31 = .ok (.iconst 0, 1) := by decide +kernel
theorem dX4_hidesNothing_32 : decode cX4_hidesNothing 32 = .ok (.ireturn, 1) := by decide +kernel
theorem dX5_init_0 : decode cX5_init 0 = .ok (.aload_n 0, 1) := by decide +kernel
theorem dX5_init_1 : decode cX5_init 1 = .ok (.invokespecial 3, 3) := by decide +kernel
theorem dX5_init_4 : decode cX5_init 4 = .ok (.aload_n 0, 1) := by decide +kernel
theorem dX5_init_5 : decode cX5_init 5 = .ok (.bipush 6, 2) := by decide +kernel
theorem dX5_init_7 : decode cX5_init 7 = .ok (.newarray .int, 2) := by decide +kernel
theorem dX5_init_9 : decode cX5_init 9 = .ok (.putfield 9, 3) := by decide +kernel
theorem dX5_init_12 : decode cX5_init 12 = .ok (.return_, 1) := by decide +kernel
theorem dX5_forgetAll_0 : decode cX5_forgetAll 0 = .ok (.aload_n 0, 1) := by decide +kernel
theorem dX5_forgetAll_1 : decode cX5_forgetAll 1 = .ok (.iconst 0, 1) := by decide +kernel
theorem dX5_forgetAll_2 : decode cX5_forgetAll 2 = .ok (.putfield 15, 3) := by decide +kernel
theorem dX5_forgetAll_5 : decode cX5_forgetAll 5 = .ok (.return_, 1) := by decide +kernel
theorem dX5_copyFrom_0 : decode cX5_copyFrom 0 = .ok (.aload_n 1, 1) := by decide +kernel
theorem dX5_copyFrom_1 : decode cX5_copyFrom 1 = .ok (.getfield 9, 3) := by decide +kernel
theorem dX5_copyFrom_4 : decode cX5_copyFrom 4 = .ok (.iconst 0, 1) := by decide +kernel
theorem dX5_copyFrom_5 : decode cX5_copyFrom 5 = .ok (.aload_n 0, 1) := by decide +kernel
theorem dX5_copyFrom_6 : decode cX5_copyFrom 6 = .ok (.getfield 9, 3) := by decide +kernel
theorem dX5_copyFrom_9 : decode cX5_copyFrom 9 = .ok (.iconst 0, 1) := by decide +kernel
theorem dX5_copyFrom_10 : decode cX5_copyFrom 10 = .ok (.bipush 6, 2) := by decide +kernel
theorem dX5_copyFrom_12 : decode cX5_copyFrom 12 = .ok (.invokestatic 19, 3) := by decide +kernel
theorem dX5_copyFrom_15 : decode cX5_copyFrom 15 = .ok (.aload_n 0, 1) := by decide +kernel
theorem dX5_copyFrom_16 : decode cX5_copyFrom 16 = .ok (.aload_n 1, 1) := by decide +kernel
theorem dX5_copyFrom_17 : decode cX5_copyFrom 17 = .ok (.getfield 15, 3) := by decide +kernel
theorem dX5_copyFrom_20 : decode cX5_copyFrom 20 = .ok (.putfield 15, 3) := by decide +kernel
theorem dX5_copyFrom_23 : decode cX5_copyFrom 23 = .ok (.return_, 1) := by decide +kernel
theorem dX5_codeOf_0 : decode cX5_codeOf 0 = .ok (.iload_n 0, 1) := by decide +kernel
theorem dX5_codeOf_1 : decode cX5_codeOf 1 = .ok (.bipush 6, 2) := by decide +kernel
theorem dX5_codeOf_3 : decode cX5_codeOf 3 = .ok (.ishl, 1) := by decide +kernel
theorem dX5_codeOf_4 : decode cX5_codeOf 4 = .ok (.iload_n 1, 1) := by decide +kernel
theorem dX5_codeOf_5 : decode cX5_codeOf 5 = .ok (.iconst 4, 1) := by decide +kernel
theorem dX5_codeOf_6 : decode cX5_codeOf 6 = .ok (.ishl, 1) := by decide +kernel
theorem dX5_codeOf_7 : decode cX5_codeOf 7 = .ok (.ior, 1) := by decide +kernel
theorem dX5_codeOf_8 : decode cX5_codeOf 8 = .ok (.iload_n 2, 1) := by decide +kernel
theorem dX5_codeOf_9 : decode cX5_codeOf 9 = .ok (.iconst 2, 1) := by decide +kernel
theorem dX5_codeOf_10 : decode cX5_codeOf 10 = .ok (.ishl, 1) := by decide +kernel
theorem dX5_codeOf_11 : decode cX5_codeOf 11 = .ok (.ior, 1) := by decide +kernel
theorem dX5_codeOf_12 : decode cX5_codeOf 12 = .ok (.iload_n 3, 1) := by decide +kernel
theorem dX5_codeOf_13 : decode cX5_codeOf 13 = .ok (.ior, 1) := by decide +kernel
theorem dX5_codeOf_14 : decode cX5_codeOf 14 = .ok (.ireturn, 1) := by decide +kernel
theorem dX5_has_0 : decode cX5_has 0 = .ok (.iload_n 1, 1) := by decide +kernel
theorem dX5_has_1 : decode cX5_has 1 = .ok (.ifCond .lt 21, 3) := by decide +kernel
theorem dX5_has_4 : decode cX5_has 4 = .ok (.iload_n 1, 1) := by decide +kernel
theorem dX5_has_5 : decode cX5_has 5 = .ok (.aload_n 0, 1) := by decide +kernel
theorem dX5_has_6 : decode cX5_has 6 = .ok (.getfield 15, 3) := by decide +kernel
theorem dX5_has_9 : decode cX5_has 9 = .ok (.if_icmp .ge 13, 3) := by decide +kernel
theorem dX5_has_12 : decode cX5_has 12 = .ok (.iload_n 1, 1) := by decide +kernel
theorem dX5_has_13 : decode cX5_has 13 = .ok (.bipush 6, 2) := by decide +kernel
theorem dX5_has_15 : decode cX5_has 15 = .ok (.if_icmp .ge 7, 3) := by decide +kernel
theorem dX5_has_18 : decode cX5_has 18 = .ok (.iconst 1, 1) := by decide +kernel
theorem dX5_has_19 : decode cX5_has 19 = .ok (.goto 4, 3) := by decide +kernel
theorem dX5_has_22 : decode cX5_has 22 = .ok (.iconst 0, 1) := by decide +kernel
theorem dX5_has_23 : decode cX5_has 23 = .ok (.ireturn, 1) := by decide +kernel
theorem dX5_codeAt_0 : decode cX5_codeAt 0 = .ok (.aload_n 0, 1) := by decide +kernel
theorem dX5_codeAt_1 : decode cX5_codeAt 1 = .ok (.iload_n 1, 1) := by decide +kernel
theorem dX5_codeAt_2 : decode cX5_codeAt 2 = .ok (.invokevirtual 25, 3) := by decide +kernel
theorem dX5_codeAt_5 : decode cX5_codeAt 5 = .ok (.ifCond .eq 12, 3) := by decide +kernel
theorem dX5_codeAt_8 : decode cX5_codeAt 8 = .ok (.aload_n 0, 1) := by decide +kernel
theorem dX5_codeAt_9 : decode cX5_codeAt 9 = .ok (.getfield 9, 3) := by decide +kernel
theorem dX5_codeAt_12 : decode cX5_codeAt 12 = .ok (.iload_n 1, 1) := by decide +kernel
theorem dX5_codeAt_13 : decode cX5_codeAt 13 = .ok (.iaload, 1) := by decide +kernel
theorem dX5_codeAt_14 : decode cX5_codeAt 14 = .ok (.goto 4, 3) := by decide +kernel
theorem dX5_codeAt_17 : decode cX5_codeAt 17 = .ok (.iconst (-1), 1) := by decide +kernel
theorem dX5_codeAt_18 : decode cX5_codeAt 18 = .ok (.ireturn, 1) := by decide +kernel
theorem dX5_set_0 : decode cX5_set 0 = .ok (.iload_n 1, 1) := by decide +kernel
theorem dX5_set_1 : decode cX5_set 1 = .ok (.ifCond .lt 17, 3) := by decide +kernel
theorem dX5_set_4 : decode cX5_set 4 = .ok (.iload_n 1, 1) := by decide +kernel
theorem dX5_set_5 : decode cX5_set 5 = .ok (.aload_n 0, 1) := by decide +kernel
theorem dX5_set_6 : decode cX5_set 6 = .ok (.getfield 15, 3) := by decide +kernel
theorem dX5_set_9 : decode cX5_set 9 = .ok (.if_icmp .gt 9, 3) := by decide +kernel
theorem dX5_set_12 : decode cX5_set 12 = .ok (.iload_n 1, 1) := by decide +kernel
theorem dX5_set_13 : decode cX5_set 13 = .ok (.bipush 6, 2) := by decide +kernel
theorem dX5_set_15 : decode cX5_set 15 = .ok (.if_icmp .lt 4, 3) := by decide +kernel
theorem dX5_set_18 : decode cX5_set 18 = .ok (.return_, 1) := by decide +kernel
theorem dX5_set_19 : decode cX5_set 19 = .ok (.aload_n 0, 1) := by decide +kernel
theorem dX5_set_20 : decode cX5_set 20 = .ok (.getfield 9, 3) := by decide +kernel
theorem dX5_set_23 : decode cX5_set 23 = .ok (.iload_n 1, 1) := by decide +kernel
theorem dX5_set_24 : decode cX5_set 24 = .ok (.iload_n 2, 1) := by decide +kernel
theorem dX5_set_25 : decode cX5_set 25 = .ok (.iastore, 1) := by decide +kernel
theorem dX5_set_26 : decode cX5_set 26 = .ok (.iload_n 1, 1) := by decide +kernel
theorem dX5_set_27 : decode cX5_set 27 = .ok (.aload_n 0, 1) := by decide +kernel
theorem dX5_set_28 : decode cX5_set 28 = .ok (.getfield 15, 3) := by decide +kernel
theorem dX5_set_31 : decode cX5_set 31 = .ok (.if_icmp .ne 10, 3) := by decide +kernel
theorem dX5_set_34 : decode cX5_set 34 = .ok (.aload_n 0, 1) := by decide +kernel
theorem dX5_set_35 : decode cX5_set 35 = .ok (.iload_n 1, 1) := by decide +kernel
theorem dX5_set_36 : decode cX5_set 36 = .ok (.iconst 1, 1) := by decide +kernel
theorem dX5_set_37 : decode cX5_set 37 = .ok (.iadd, 1) := by decide +kernel
theorem dX5_set_38 : decode cX5_set 38 = .ok (.putfield 15, 3) := by decide +kernel
theorem dX5_set_41 : decode cX5_set 41 = .ok (.return_, 1) := by decide +kernel
theorem dX5_kindOf_0 : decode cX5_kindOf 0 = .ok (.iload_n 0, 1) := by decide +kernel
theorem dX5_kindOf_1 : decode cX5_kindOf 1 = .ok (.bipush 6, 2) := by decide +kernel
theorem dX5_kindOf_3 : decode cX5_kindOf 3 = .ok (.ishr, 1) := by decide +kernel
theorem dX5_kindOf_4 : decode cX5_kindOf 4 = .ok (.iconst 3, 1) := by decide +kernel
theorem dX5_kindOf_5 : decode cX5_kindOf 5 = .ok (.iand, 1) := by decide +kernel
theorem dX5_kindOf_6 : decode cX5_kindOf 6 = .ok (.ireturn, 1) := by decide +kernel
theorem dX5_targetOf_0 : decode cX5_targetOf 0 = .ok (.iload_n 0, 1) := by decide +kernel
theorem dX5_targetOf_1 : decode cX5_targetOf 1 = .ok (.iconst 4, 1) := by decide +kernel
theorem dX5_targetOf_2 : decode cX5_targetOf 2 = .ok (.ishr, 1) := by decide +kernel
theorem dX5_targetOf_3 : decode cX5_targetOf 3 = .ok (.iconst 3, 1) := by decide +kernel
theorem dX5_targetOf_4 : decode cX5_targetOf 4 = .ok (.iand, 1) := by decide +kernel
theorem dX5_targetOf_5 : decode cX5_targetOf 5 = .ok (.ireturn, 1) := by decide +kernel
theorem dX5_firstOf_0 : decode cX5_firstOf 0 = .ok (.iload_n 0, 1) := by decide +kernel
theorem dX5_firstOf_1 : decode cX5_firstOf 1 = .ok (.iconst 2, 1) := by decide +kernel
theorem dX5_firstOf_2 : decode cX5_firstOf 2 = .ok (.ishr, 1) := by decide +kernel
theorem dX5_firstOf_3 : decode cX5_firstOf 3 = .ok (.iconst 3, 1) := by decide +kernel
theorem dX5_firstOf_4 : decode cX5_firstOf 4 = .ok (.iand, 1) := by decide +kernel
theorem dX5_firstOf_5 : decode cX5_firstOf 5 = .ok (.ireturn, 1) := by decide +kernel
theorem dX5_secondOf_0 : decode cX5_secondOf 0 = .ok (.iload_n 0, 1) := by decide +kernel
theorem dX5_secondOf_1 : decode cX5_secondOf 1 = .ok (.iconst 3, 1) := by decide +kernel
theorem dX5_secondOf_2 : decode cX5_secondOf 2 = .ok (.iand, 1) := by decide +kernel
theorem dX5_secondOf_3 : decode cX5_secondOf 3 = .ok (.ireturn, 1) := by decide +kernel
theorem dX6_init_0 : decode cX6_init 0 = .ok (.aload_n 0, 1) := by decide +kernel
theorem dX6_init_1 : decode cX6_init 1 = .ok (.invokespecial 3, 3) := by decide +kernel
theorem dX6_init_4 : decode cX6_init 4 = .ok (.aload_n 0, 1) := by decide +kernel
theorem dX6_init_5 : decode cX6_init 5 = .ok (.bipush 100, 2) := by decide +kernel
theorem dX6_init_7 : decode cX6_init 7 = .ok (.newarray .int, 2) := by decide +kernel
theorem dX6_init_9 : decode cX6_init 9 = .ok (.putfield 9, 3) := by decide +kernel
theorem dX6_init_12 : decode cX6_init 12 = .ok (.return_, 1) := by decide +kernel
theorem dX6_isFull_0 : decode cX6_isFull 0 = .ok (.aload_n 0, 1) := by decide +kernel
theorem dX6_isFull_1 : decode cX6_isFull 1 = .ok (.getfield 15, 3) := by decide +kernel
theorem dX6_isFull_4 : decode cX6_isFull 4 = .ok (.bipush 100, 2) := by decide +kernel
theorem dX6_isFull_6 : decode cX6_isFull 6 = .ok (.if_icmp .lt 7, 3) := by decide +kernel
theorem dX6_isFull_9 : decode cX6_isFull 9 = .ok (.iconst 1, 1) := by decide +kernel
theorem dX6_isFull_10 : decode cX6_isFull 10 = .ok (.goto 4, 3) := by decide +kernel
theorem dX6_isFull_13 : decode cX6_isFull 13 = .ok (.iconst 0, 1) := by decide +kernel
theorem dX6_isFull_14 : decode cX6_isFull 14 = .ok (.ireturn, 1) := by decide +kernel
theorem dX6_append_0 : decode cX6_append 0 = .ok (.aload_n 0, 1) := by decide +kernel
theorem dX6_append_1 : decode cX6_append 1 = .ok (.getfield 15, 3) := by decide +kernel
theorem dX6_append_4 : decode cX6_append 4 = .ok (.ifCond .lt 32, 3) := by decide +kernel
theorem dX6_append_7 : decode cX6_append 7 = .ok (.aload_n 0, 1) := by decide +kernel
theorem dX6_append_8 : decode cX6_append 8 = .ok (.getfield 15, 3) := by decide +kernel
theorem dX6_append_11 : decode cX6_append 11 = .ok (.bipush 100, 2) := by decide +kernel
theorem dX6_append_13 : decode cX6_append 13 = .ok (.if_icmp .ge 23, 3) := by decide +kernel
theorem dX6_append_16 : decode cX6_append 16 = .ok (.aload_n 0, 1) := by decide +kernel
theorem dX6_append_17 : decode cX6_append 17 = .ok (.getfield 9, 3) := by decide +kernel
theorem dX6_append_20 : decode cX6_append 20 = .ok (.aload_n 0, 1) := by decide +kernel
theorem dX6_append_21 : decode cX6_append 21 = .ok (.getfield 15, 3) := by decide +kernel
theorem dX6_append_24 : decode cX6_append 24 = .ok (.iload_n 1, 1) := by decide +kernel
theorem dX6_append_25 : decode cX6_append 25 = .ok (.iastore, 1) := by decide +kernel
theorem dX6_append_26 : decode cX6_append 26 = .ok (.aload_n 0, 1) := by decide +kernel
theorem dX6_append_27 : decode cX6_append 27 = .ok (.dup, 1) := by decide +kernel
theorem dX6_append_28 : decode cX6_append 28 = .ok (.getfield 15, 3) := by decide +kernel
theorem dX6_append_31 : decode cX6_append 31 = .ok (.iconst 1, 1) := by decide +kernel
theorem dX6_append_32 : decode cX6_append 32 = .ok (.iadd, 1) := by decide +kernel
theorem dX6_append_33 : decode cX6_append 33 = .ok (.putfield 15, 3) := by decide +kernel
theorem dX6_append_36 : decode cX6_append 36 = .ok (.return_, 1) := by decide +kernel
theorem dX6_readAll_0 : decode cX6_readAll 0 = .ok (.aload_n 1, 1) := by decide +kernel
theorem dX6_readAll_1 : decode cX6_readAll 1 = .ok (.invokevirtual 19, 3) := by decide +kernel
theorem dX6_readAll_4 : decode cX6_readAll 4 = .ok (.aload_n 0, 1) := by decide +kernel
theorem dX6_readAll_5 : decode cX6_readAll 5 = .ok (.iconst 0, 1) := by decide +kernel
theorem dX6_readAll_6 : decode cX6_readAll 6 = .ok (.putfield 24, 3) := by decide +kernel
theorem dX6_readAll_9 : decode cX6_readAll 9 = .ok (.iconst 0, 1) := by decide +kernel
theorem dX6_readAll_10 : decode cX6_readAll 10 = .ok (.istore_n 2, 1) := by decide +kernel
theorem dX6_readAll_11 : decode cX6_readAll 11 = .ok (.iload_n 2, 1) := by decide +kernel
theorem dX6_readAll_12 : decode cX6_readAll 12 = .ok (.bipush 100, 2) := by decide +kernel
theorem dX6_readAll_14 : decode cX6_readAll 14 = .ok (.if_icmp .ge 33, 3) := by decide +kernel
theorem dX6_readAll_17 : decode cX6_readAll 17 = .ok (.aload_n 0, 1) := by decide +kernel
theorem dX6_readAll_18 : decode cX6_readAll 18 = .ok (.invokevirtual 27, 3) := by decide +kernel
theorem dX6_readAll_21 : decode cX6_readAll 21 = .ok (.iconst (-1), 1) := by decide +kernel
theorem dX6_readAll_22 : decode cX6_readAll 22 = .ok (.if_icmp .eq 25, 3) := by decide +kernel
theorem dX6_readAll_25 : decode cX6_readAll 25 = .ok (.aload_n 0, 1) := by decide +kernel
theorem dX6_readAll_26 : decode cX6_readAll 26 = .ok (.aload_n 1, 1) := by decide +kernel
theorem dX6_readAll_27 : decode cX6_readAll 27 = .ok (.invokevirtual 31, 3) := by decide +kernel
theorem dX6_readAll_30 : decode cX6_readAll 30 = .ok (.ifCond .ne 11, 3) := by decide +kernel
theorem dX6_readAll_33 : decode cX6_readAll 33 = .ok (.bipush (-10), 2) := by decide +kernel
theorem dX6_readAll_35 : decode cX6_readAll 35 = .ok (.aload_n 0, 1) := by decide +kernel
theorem dX6_readAll_36 : decode cX6_readAll 36 = .ok (.getfield 24, 3) := by decide +kernel
theorem dX6_readAll_39 : decode cX6_readAll 39 = .ok (.isub, 1) := by decide +kernel
theorem dX6_readAll_40 : decode cX6_readAll 40 = .ok (.ireturn, 1) := by decide +kernel
theorem dX6_readAll_41 : decode cX6_readAll 41 = .ok (.iinc 2 1, 3) := by decide +kernel
theorem dX6_readAll_44 : decode cX6_readAll 44 = .ok (.goto (-33), 3) := by decide +kernel
theorem dX6_readAll_47 : decode cX6_readAll 47 = .ok (.aload_n 1, 1) := by decide +kernel
theorem dX6_readAll_48 : decode cX6_readAll 48 = .ok (.getfield 35, 3) := by decide +kernel
theorem dX6_readAll_51 : decode cX6_readAll 51 = .ok (.invokevirtual 39, 3) := by decide +kernel
theorem dX6_readAll_54 : decode cX6_readAll 54 = .ok (.iload_n 2, 1) := by decide +kernel
theorem dX6_readAll_55 : decode cX6_readAll 55 = .ok (.ireturn, 1) := by decide +kernel
theorem dX6_peek_0 : decode cX6_peek 0 = .ok (.aload_n 0, 1) := by decide +kernel
theorem dX6_peek_1 : decode cX6_peek 1 = .ok (.getfield 24, 3) := by decide +kernel
theorem dX6_peek_4 : decode cX6_peek 4 = .ok (.ifCond .lt 50, 3) := by decide +kernel
theorem dX6_peek_7 : decode cX6_peek 7 = .ok (.aload_n 0, 1) := by decide +kernel
theorem dX6_peek_8 : decode cX6_peek 8 = .ok (.getfield 24, 3) := by decide +kernel
theorem dX6_peek_11 : decode cX6_peek 11 = .ok (.aload_n 0, 1) := by decide +kernel
theorem dX6_peek_12 : decode cX6_peek 12 = .ok (.getfield 15, 3) := by decide +kernel
theorem dX6_peek_15 : decode cX6_peek 15 = .ok (.if_icmp .ge 39, 3) := by decide +kernel
theorem dX6_peek_18 : decode cX6_peek 18 = .ok (.aload_n 0, 1) := by decide +kernel
theorem dX6_peek_19 : decode cX6_peek 19 = .ok (.getfield 24, 3) := by decide +kernel
theorem dX6_peek_22 : decode cX6_peek 22 = .ok (.bipush 100, 2) := by decide +kernel
theorem dX6_peek_24 : decode cX6_peek 24 = .ok (.if_icmp .ge 30, 3) := by decide +kernel
theorem dX6_peek_27 : decode cX6_peek 27 = .ok (.aload_n 0, 1) := by decide +kernel
theorem dX6_peek_28 : decode cX6_peek 28 = .ok (.getfield 9, 3) := by decide +kernel
theorem dX6_peek_31 : decode cX6_peek 31 = .ok (.aload_n 0, 1) := by decide +kernel
theorem dX6_peek_32 : decode cX6_peek 32 = .ok (.getfield 24, 3) := by decide +kernel
theorem dX6_peek_35 : decode cX6_peek 35 = .ok (.iaload, 1) := by decide +kernel
theorem dX6_peek_36 : decode cX6_peek 36 = .ok (.bipush 32, 2) := by decide +kernel
theorem dX6_peek_38 : decode cX6_peek 38 = .ok (.if_icmp .ne 16, 3) := by decide +kernel
theorem dX6_peek_41 : decode cX6_peek 41 = .ok (.aload_n 0, 1) := by decide +kernel
theorem dX6_peek_42 : decode cX6_peek 42 = .ok (.dup, 1) := by decide +kernel
theorem dX6_peek_43 : decode cX6_peek 43 = .ok (.getfield 24, 3) := by decide +kernel
theorem dX6_peek_46 : decode cX6_peek 46 = .ok (.iconst 1, 1) := by decide +kernel
theorem dX6_peek_47 : decode cX6_peek 47 = .ok (.iadd, 1) := by decide +kernel
theorem dX6_peek_48 : decode cX6_peek 48 = .ok (.putfield 24, 3) := by decide +kernel
theorem dX6_peek_51 : decode cX6_peek 51 = .ok (.goto (-51), 3) := by decide +kernel
theorem dX6_peek_54 : decode cX6_peek 54 = .ok (.aload_n 0, 1) := by decide +kernel
theorem dX6_peek_55 : decode cX6_peek 55 = .ok (.getfield 24, 3) := by decide +kernel
theorem dX6_peek_58 : decode cX6_peek 58 = .ok (.ifCond .lt 35, 3) := by decide +kernel
theorem dX6_peek_61 : decode cX6_peek 61 = .ok (.aload_n 0, 1) := by decide +kernel
theorem dX6_peek_62 : decode cX6_peek 62 = .ok (.getfield 24, 3) := by decide +kernel
theorem dX6_peek_65 : decode cX6_peek 65 = .ok (.aload_n 0, 1) := by decide +kernel
theorem dX6_peek_66 : decode cX6_peek 66 = .ok (.getfield 15, 3) := by decide +kernel
theorem dX6_peek_69 : decode cX6_peek 69 = .ok (.if_icmp .ge 24, 3) := by decide +kernel
theorem dX6_peek_72 : decode cX6_peek 72 = .ok (.aload_n 0, 1) := by decide +kernel
theorem dX6_peek_73 : decode cX6_peek 73 = .ok (.getfield 24, 3) := by decide +kernel
theorem dX6_peek_76 : decode cX6_peek 76 = .ok (.bipush 100, 2) := by decide +kernel
theorem dX6_peek_78 : decode cX6_peek 78 = .ok (.if_icmp .ge 15, 3) := by decide +kernel
theorem dX6_peek_81 : decode cX6_peek 81 = .ok (.aload_n 0, 1) := by decide +kernel
theorem dX6_peek_82 : decode cX6_peek 82 = .ok (.getfield 9, 3) := by decide +kernel
theorem dX6_peek_85 : decode cX6_peek 85 = .ok (.aload_n 0, 1) := by decide +kernel
theorem dX6_peek_86 : decode cX6_peek 86 = .ok (.getfield 24, 3) := by decide +kernel
theorem dX6_peek_89 : decode cX6_peek 89 = .ok (.iaload, 1) := by decide +kernel
theorem dX6_peek_90 : decode cX6_peek 90 = .ok (.goto 4, 3) := by decide +kernel
theorem dX6_peek_93 : decode cX6_peek 93 = .ok (.iconst (-1), 1) := by decide +kernel
theorem dX6_peek_94 : decode cX6_peek 94 = .ok (.ireturn, 1) := by decide +kernel
theorem dX6_accept_0 : decode cX6_accept 0 = .ok (.aload_n 0, 1) := by decide +kernel
theorem dX6_accept_1 : decode cX6_accept 1 = .ok (.invokevirtual 27, 3) := by decide +kernel
theorem dX6_accept_4 : decode cX6_accept 4 = .ok (.iload_n 1, 1) := by decide +kernel
theorem dX6_accept_5 : decode cX6_accept 5 = .ok (.if_icmp .eq 5, 3) := by decide +kernel
theorem dX6_accept_8 : decode cX6_accept 8 = .ok (.iconst 0, 1) := by decide +kernel
theorem dX6_accept_9 : decode cX6_accept 9 = .ok (.ireturn, 1) := by decide +kernel
theorem dX6_accept_10 : decode cX6_accept 10 = .ok (.aload_n 0, 1) := by decide +kernel
theorem dX6_accept_11 : decode cX6_accept 11 = .ok (.dup, 1) := by decide +kernel
theorem dX6_accept_12 : decode cX6_accept 12 = .ok (.getfield 24, 3) := by decide +kernel
theorem dX6_accept_15 : decode cX6_accept 15 = .ok (.iconst 1, 1) := by decide +kernel
theorem dX6_accept_16 : decode cX6_accept 16 = .ok (.iadd, 1) := by decide +kernel
theorem dX6_accept_17 : decode cX6_accept 17 = .ok (.putfield 24, 3) := by decide +kernel
theorem dX6_accept_20 : decode cX6_accept 20 = .ok (.iconst 1, 1) := by decide +kernel
theorem dX6_accept_21 : decode cX6_accept 21 = .ok (.ireturn, 1) := by decide +kernel
theorem dX6_readItem_0 : decode cX6_readItem 0 = .ok (.aload_n 0, 1) := by decide +kernel
theorem dX6_readItem_1 : decode cX6_readItem 1 = .ok (.invokevirtual 27, 3) := by decide +kernel
theorem dX6_readItem_4 : decode cX6_readItem 4 = .ok (.lookupswitch 87 #[(33, 59), (61, 52), (110, 66), (111, 80), (117, 73)], 52) := by decide +kernel
theorem dX6_readItem_56 : decode cX6_readItem 56 = .ok (.aload_n 0, 1) := by decide +kernel
theorem dX6_readItem_57 : decode cX6_readItem 57 = .ok (.aload_n 1, 1) := by decide +kernel
theorem dX6_readItem_58 : decode cX6_readItem 58 = .ok (.iconst 1, 1) := by decide +kernel
theorem dX6_readItem_59 : decode cX6_readItem 59 = .ok (.invokevirtual 44, 3) := by decide +kernel
theorem dX6_readItem_62 : decode cX6_readItem 62 = .ok (.ireturn, 1) := by decide +kernel
theorem dX6_readItem_63 : decode cX6_readItem 63 = .ok (.aload_n 0, 1) := by decide +kernel
theorem dX6_readItem_64 : decode cX6_readItem 64 = .ok (.aload_n 1, 1) := by decide +kernel
theorem dX6_readItem_65 : decode cX6_readItem 65 = .ok (.iconst 0, 1) := by decide +kernel
theorem dX6_readItem_66 : decode cX6_readItem 66 = .ok (.invokevirtual 44, 3) := by decide +kernel
theorem dX6_readItem_69 : decode cX6_readItem 69 = .ok (.ireturn, 1) := by decide +kernel
theorem dX6_readItem_70 : decode cX6_readItem 70 = .ok (.aload_n 0, 1) := by decide +kernel
theorem dX6_readItem_71 : decode cX6_readItem 71 = .ok (.aload_n 1, 1) := by decide +kernel
theorem dX6_readItem_72 : decode cX6_readItem 72 = .ok (.iconst 0, 1) := by decide +kernel
theorem dX6_readItem_73 : decode cX6_readItem 73 = .ok (.invokevirtual 48, 3) := by decide +kernel
theorem dX6_readItem_76 : decode cX6_readItem 76 = .ok (.ireturn, 1) := by decide +kernel
theorem dX6_readItem_77 : decode cX6_readItem 77 = .ok (.aload_n 0, 1) := by decide +kernel
theorem dX6_readItem_78 : decode cX6_readItem 78 = .ok (.aload_n 1, 1) := by decide +kernel
theorem dX6_readItem_79 : decode cX6_readItem 79 = .ok (.iconst 1, 1) := by decide +kernel
theorem dX6_readItem_80 : decode cX6_readItem 80 = .ok (.invokevirtual 48, 3) := by decide +kernel
theorem dX6_readItem_83 : decode cX6_readItem 83 = .ok (.ireturn, 1) := by decide +kernel
theorem dX6_readItem_84 : decode cX6_readItem 84 = .ok (.aload_n 0, 1) := by decide +kernel
theorem dX6_readItem_85 : decode cX6_readItem 85 = .ok (.aload_n 1, 1) := by decide +kernel
theorem dX6_readItem_86 : decode cX6_readItem 86 = .ok (.iconst 2, 1) := by decide +kernel
theorem dX6_readItem_87 : decode cX6_readItem 87 = .ok (.invokevirtual 48, 3) := by decide +kernel
theorem dX6_readItem_90 : decode cX6_readItem 90 = .ok (.ireturn, 1) := by decide +kernel
theorem dX6_readItem_91 : decode cX6_readItem 91 = .ok (.iconst 0, 1) := by decide +kernel
theorem dX6_readItem_92 : decode cX6_readItem 92 = .ok (.ireturn, 1) := by decide +kernel
theorem dX6_readFact_0 : decode cX6_readFact 0 = .ok (.aload_n 1, 1) := by decide +kernel
theorem dX6_readFact_1 : decode cX6_readFact 1 = .ok (.getfield 52, 3) := by decide +kernel
theorem dX6_readFact_4 : decode cX6_readFact 4 = .ok (.bipush 6, 2) := by decide +kernel
theorem dX6_readFact_6 : decode cX6_readFact 6 = .ok (.if_icmp .lt 5, 3) := by decide +kernel
theorem dX6_readFact_9 : decode cX6_readFact 9 = .ok (.iconst 0, 1) := by decide +kernel
theorem dX6_readFact_10 : decode cX6_readFact 10 = .ok (.ireturn, 1) := by decide +kernel
theorem dX6_readFact_11 : decode cX6_readFact 11 = .ok (.aload_n 0, 1) := by decide +kernel
theorem dX6_readFact_12 : decode cX6_readFact 12 = .ok (.dup, 1) := by decide +kernel
theorem dX6_readFact_13 : decode cX6_readFact 13 = .ok (.getfield 24, 3) := by decide +kernel
theorem dX6_readFact_16 : decode cX6_readFact 16 = .ok (.iconst 1, 1) := by decide +kernel
theorem dX6_readFact_17 : decode cX6_readFact 17 = .ok (.iadd, 1) := by decide +kernel
theorem dX6_readFact_18 : decode cX6_readFact 18 = .ok (.putfield 24, 3) := by decide +kernel
theorem dX6_readFact_21 : decode cX6_readFact 21 = .ok (.aload_n 0, 1) := by decide +kernel
theorem dX6_readFact_22 : decode cX6_readFact 22 = .ok (.aload_n 1, 1) := by decide +kernel
theorem dX6_readFact_23 : decode cX6_readFact 23 = .ok (.getfield 35, 3) := by decide +kernel
theorem dX6_readFact_26 : decode cX6_readFact 26 = .ok (.iconst 0, 1) := by decide +kernel
theorem dX6_readFact_27 : decode cX6_readFact 27 = .ok (.invokevirtual 55, 3) := by decide +kernel
theorem dX6_readFact_30 : decode cX6_readFact 30 = .ok (.istore_n 3, 1) := by decide +kernel
theorem dX6_readFact_31 : decode cX6_readFact 31 = .ok (.iload_n 3, 1) := by decide +kernel
theorem dX6_readFact_32 : decode cX6_readFact 32 = .ok (.iconst (-1), 1) := by decide +kernel
theorem dX6_readFact_33 : decode cX6_readFact 33 = .ok (.if_icmp .ne 5, 3) := by decide +kernel
theorem dX6_readFact_36 : decode cX6_readFact 36 = .ok (.iconst 0, 1) := by decide +kernel
theorem dX6_readFact_37 : decode cX6_readFact 37 = .ok (.ireturn, 1) := by decide +kernel
theorem dX6_readFact_38 : decode cX6_readFact 38 = .ok (.aload_n 0, 1) := by decide +kernel
theorem dX6_readFact_39 : decode cX6_readFact 39 = .ok (.aload_n 1, 1) := by decide +kernel
theorem dX6_readFact_40 : decode cX6_readFact 40 = .ok (.getfield 35, 3) := by decide +kernel
theorem dX6_readFact_43 : decode cX6_readFact 43 = .ok (.iconst 0, 1) := by decide +kernel
theorem dX6_readFact_44 : decode cX6_readFact 44 = .ok (.invokevirtual 55, 3) := by decide +kernel
theorem dX6_readFact_47 : decode cX6_readFact 47 = .ok (.istore 4, 2) := by decide +kernel
theorem dX6_readFact_49 : decode cX6_readFact 49 = .ok (.iload 4, 2) := by decide +kernel
theorem dX6_readFact_51 : decode cX6_readFact 51 = .ok (.iconst (-1), 1) := by decide +kernel
theorem dX6_readFact_52 : decode cX6_readFact 52 = .ok (.if_icmp .eq 12, 3) := by decide +kernel
theorem dX6_readFact_55 : decode cX6_readFact 55 = .ok (.aload_n 0, 1) := by decide +kernel
theorem dX6_readFact_56 : decode cX6_readFact 56 = .ok (.bipush 59, 2) := by decide +kernel
theorem dX6_readFact_58 : decode cX6_readFact 58 = .ok (.invokevirtual 59, 3) := by decide +kernel
theorem dX6_readFact_61 : decode cX6_readFact 61 = .ok (.ifCond .ne 5, 3) := by decide +kernel
theorem dX6_readFact_64 : decode cX6_readFact 64 = .ok (.iconst 0, 1) := by decide +kernel
theorem dX6_readFact_65 : decode cX6_readFact 65 = .ok (.ireturn, 1) := by decide +kernel
theorem dX6_readFact_66 : decode cX6_readFact 66 = .ok (.aload_n 1, 1) := by decide +kernel
theorem dX6_readFact_67 : decode cX6_readFact 67 = .ok (.iload_n 2, 1) := by decide +kernel
theorem dX6_readFact_68 : decode cX6_readFact 68 = .ok (.iload_n 3, 1) := by decide +kernel
theorem dX6_readFact_69 : decode cX6_readFact 69 = .ok (.iload 4, 2) := by decide +kernel
theorem dX6_readFact_71 : decode cX6_readFact 71 = .ok (.invokevirtual 63, 3) := by decide +kernel
theorem dX6_readFact_74 : decode cX6_readFact 74 = .ok (.iconst 1, 1) := by decide +kernel
theorem dX6_readFact_75 : decode cX6_readFact 75 = .ok (.ireturn, 1) := by decide +kernel
theorem dX6_readTerm_0 : decode cX6_readTerm 0 = .ok (.aload_n 0, 1) := by decide +kernel
theorem dX6_readTerm_1 : decode cX6_readTerm 1 = .ok (.invokevirtual 27, 3) := by decide +kernel
theorem dX6_readTerm_4 : decode cX6_readTerm 4 = .ok (.istore_n 3, 1) := by decide +kernel
theorem dX6_readTerm_5 : decode cX6_readTerm 5 = .ok (.iload_n 3, 1) := by decide +kernel
theorem dX6_readTerm_6 : decode cX6_readTerm 6 = .ok (.bipush 97, 2) := by decide +kernel
theorem dX6_readTerm_8 : decode cX6_readTerm 8 = .ok (.if_icmp .lt 24, 3) := by decide +kernel
theorem dX6_readTerm_11 : decode cX6_readTerm 11 = .ok (.iload_n 3, 1) := by decide +kernel
theorem dX6_readTerm_12 : decode cX6_readTerm 12 = .ok (.bipush 100, 2) := by decide +kernel
theorem dX6_readTerm_14 : decode cX6_readTerm 14 = .ok (.if_icmp .gt 18, 3) := by decide +kernel
theorem dX6_readTerm_17 : decode cX6_readTerm 17 = .ok (.aload_n 0, 1) := by decide +kernel
theorem dX6_readTerm_18 : decode cX6_readTerm 18 = .ok (.dup, 1) := by decide +kernel
theorem dX6_readTerm_19 : decode cX6_readTerm 19 = .ok (.getfield 24, 3) := by decide +kernel
theorem dX6_readTerm_22 : decode cX6_readTerm 22 = .ok (.iconst 1, 1) := by decide +kernel
theorem dX6_readTerm_23 : decode cX6_readTerm 23 = .ok (.iadd, 1) := by decide +kernel
theorem dX6_readTerm_24 : decode cX6_readTerm 24 = .ok (.putfield 24, 3) := by decide +kernel
theorem dX6_readTerm_27 : decode cX6_readTerm 27 = .ok (.iload_n 3, 1) := by decide +kernel
theorem dX6_readTerm_28 : decode cX6_readTerm 28 = .ok (.bipush 97, 2) := by decide +kernel
theorem dX6_readTerm_30 : decode cX6_readTerm 30 = .ok (.isub, 1) := by decide +kernel
theorem dX6_readTerm_31 : decode cX6_readTerm 31 = .ok (.ireturn, 1) := by decide +kernel
theorem dX6_readTerm_32 : decode cX6_readTerm 32 = .ok (.iload_n 3, 1) := by decide +kernel
theorem dX6_readTerm_33 : decode cX6_readTerm 33 = .ok (.bipush 102, 2) := by decide +kernel
theorem dX6_readTerm_35 : decode cX6_readTerm 35 = .ok (.if_icmp .eq 9, 3) := by decide +kernel
theorem dX6_readTerm_38 : decode cX6_readTerm 38 = .ok (.iload_n 3, 1) := by decide +kernel
theorem dX6_readTerm_39 : decode cX6_readTerm 39 = .ok (.bipush 103, 2) := by decide +kernel
theorem dX6_readTerm_41 : decode cX6_readTerm 41 = .ok (.if_icmp .ne 8, 3) := by decide +kernel
theorem dX6_readTerm_44 : decode cX6_readTerm 44 = .ok (.iload_n 2, 1) := by decide +kernel
theorem dX6_readTerm_45 : decode cX6_readTerm 45 = .ok (.iconst 4, 1) := by decide +kernel
theorem dX6_readTerm_46 : decode cX6_readTerm 46 = .ok (.if_icmp .lt 5, 3) := by decide +kernel
theorem dX6_readTerm_49 : decode cX6_readTerm 49 = .ok (.iconst (-1), 1) := by decide +kernel
theorem dX6_readTerm_50 : decode cX6_readTerm 50 = .ok (.ireturn, 1) := by decide +kernel
theorem dX6_readTerm_51 : decode cX6_readTerm 51 = .ok (.aload_n 0, 1) := by decide +kernel
theorem dX6_readTerm_52 : decode cX6_readTerm 52 = .ok (.dup, 1) := by decide +kernel
theorem dX6_readTerm_53 : decode cX6_readTerm 53 = .ok (.getfield 24, 3) := by decide +kernel
theorem dX6_readTerm_56 : decode cX6_readTerm 56 = .ok (.iconst 1, 1) := by decide +kernel
theorem dX6_readTerm_57 : decode cX6_readTerm 57 = .ok (.iadd, 1) := by decide +kernel
theorem dX6_readTerm_58 : decode cX6_readTerm 58 = .ok (.putfield 24, 3) := by decide +kernel
theorem dX6_readTerm_61 : decode cX6_readTerm 61 = .ok (.aload_n 0, 1) := by decide +kernel
theorem dX6_readTerm_62 : decode cX6_readTerm 62 = .ok (.aload_n 1, 1) := by decide +kernel
theorem dX6_readTerm_63 : decode cX6_readTerm 63 = .ok (.iload_n 2, 1) := by decide +kernel
theorem dX6_readTerm_64 : decode cX6_readTerm 64 = .ok (.iconst 1, 1) := by decide +kernel
theorem dX6_readTerm_65 : decode cX6_readTerm 65 = .ok (.iadd, 1) := by decide +kernel
theorem dX6_readTerm_66 : decode cX6_readTerm 66 = .ok (.invokevirtual 55, 3) := by decide +kernel
theorem dX6_readTerm_69 : decode cX6_readTerm 69 = .ok (.istore 4, 2) := by decide +kernel
theorem dX6_readTerm_71 : decode cX6_readTerm 71 = .ok (.iload 4, 2) := by decide +kernel
theorem dX6_readTerm_73 : decode cX6_readTerm 73 = .ok (.iconst (-1), 1) := by decide +kernel
theorem dX6_readTerm_74 : decode cX6_readTerm 74 = .ok (.if_icmp .ne 5, 3) := by decide +kernel
theorem dX6_readTerm_77 : decode cX6_readTerm 77 = .ok (.iconst (-1), 1) := by decide +kernel
theorem dX6_readTerm_78 : decode cX6_readTerm 78 = .ok (.ireturn, 1) := by decide +kernel
theorem dX6_readTerm_79 : decode cX6_readTerm 79 = .ok (.iload_n 3, 1) := by decide +kernel
theorem dX6_readTerm_80 : decode cX6_readTerm 80 = .ok (.bipush 102, 2) := by decide +kernel
theorem dX6_readTerm_82 : decode cX6_readTerm 82 = .ok (.if_icmp .ne 13, 3) := by decide +kernel
theorem dX6_readTerm_85 : decode cX6_readTerm 85 = .ok (.aload_n 1, 1) := by decide +kernel
theorem dX6_readTerm_86 : decode cX6_readTerm 86 = .ok (.iconst 4, 1) := by decide +kernel
theorem dX6_readTerm_87 : decode cX6_readTerm 87 = .ok (.iload 4, 2) := by decide +kernel
theorem dX6_readTerm_89 : decode cX6_readTerm 89 = .ok (.iload 4, 2) := by decide +kernel
theorem dX6_readTerm_91 : decode cX6_readTerm 91 = .ok (.invokevirtual 67, 3) := by decide +kernel
theorem dX6_readTerm_94 : decode cX6_readTerm 94 = .ok (.ireturn, 1) := by decide +kernel
theorem dX6_readTerm_95 : decode cX6_readTerm 95 = .ok (.aload_n 0, 1) := by decide +kernel
theorem dX6_readTerm_96 : decode cX6_readTerm 96 = .ok (.aload_n 1, 1) := by decide +kernel
theorem dX6_readTerm_97 : decode cX6_readTerm 97 = .ok (.iload_n 2, 1) := by decide +kernel
theorem dX6_readTerm_98 : decode cX6_readTerm 98 = .ok (.iconst 1, 1) := by decide +kernel
theorem dX6_readTerm_99 : decode cX6_readTerm 99 = .ok (.iadd, 1) := by decide +kernel
theorem dX6_readTerm_100 : decode cX6_readTerm 100 = .ok (.invokevirtual 55, 3) := by decide +kernel
theorem dX6_readTerm_103 : decode cX6_readTerm 103 = .ok (.istore 5, 2) := by decide +kernel
theorem dX6_readTerm_105 : decode cX6_readTerm 105 = .ok (.iload 5, 2) := by decide +kernel
theorem dX6_readTerm_107 : decode cX6_readTerm 107 = .ok (.iconst (-1), 1) := by decide +kernel
theorem dX6_readTerm_108 : decode cX6_readTerm 108 = .ok (.if_icmp .ne 7, 3) := by decide +kernel
theorem dX6_readTerm_111 : decode cX6_readTerm 111 = .ok (.iconst (-1), 1) := by decide +kernel
theorem dX6_readTerm_112 : decode cX6_readTerm 112 = .ok (.goto 12, 3) := by decide +kernel
theorem dX6_readTerm_115 : decode cX6_readTerm 115 = .ok (.aload_n 1, 1) := by decide +kernel
theorem dX6_readTerm_116 : decode cX6_readTerm 116 = .ok (.iconst 5, 1) := by decide +kernel
theorem dX6_readTerm_117 : decode cX6_readTerm 117 = .ok (.iload 4, 2) := by decide +kernel
theorem dX6_readTerm_119 : decode cX6_readTerm 119 = .ok (.iload 5, 2) := by decide +kernel
theorem dX6_readTerm_121 : decode cX6_readTerm 121 = .ok (.invokevirtual 67, 3) := by decide +kernel
theorem dX6_readTerm_124 : decode cX6_readTerm 124 = .ok (.ireturn, 1) := by decide +kernel
theorem dX6_readInstruction_0 : decode cX6_readInstruction 0 = .ok (.aload_n 1, 1) := by decide +kernel
theorem dX6_readInstruction_1 : decode cX6_readInstruction 1 = .ok (.getfield 71, 3) := by decide +kernel
theorem dX6_readInstruction_4 : decode cX6_readInstruction 4 = .ok (.getfield 75, 3) := by decide +kernel
theorem dX6_readInstruction_7 : decode cX6_readInstruction 7 = .ok (.bipush 6, 2) := by decide +kernel
theorem dX6_readInstruction_9 : decode cX6_readInstruction 9 = .ok (.if_icmp .lt 5, 3) := by decide +kernel
theorem dX6_readInstruction_12 : decode cX6_readInstruction 12 = .ok (.iconst 0, 1) := by decide +kernel
theorem dX6_readInstruction_13 : decode cX6_readInstruction 13 = .ok (.ireturn, 1) := by decide +kernel
theorem dX6_readInstruction_14 : decode cX6_readInstruction 14 = .ok (.aload_n 0, 1) := by decide +kernel
theorem dX6_readInstruction_15 : decode cX6_readInstruction 15 = .ok (.dup, 1) := by decide +kernel
theorem dX6_readInstruction_16 : decode cX6_readInstruction 16 = .ok (.getfield 24, 3) := by decide +kernel
theorem dX6_readInstruction_19 : decode cX6_readInstruction 19 = .ok (.iconst 1, 1) := by decide +kernel
theorem dX6_readInstruction_20 : decode cX6_readInstruction 20 = .ok (.iadd, 1) := by decide +kernel
theorem dX6_readInstruction_21 : decode cX6_readInstruction 21 = .ok (.putfield 24, 3) := by decide +kernel
theorem dX6_readInstruction_24 : decode cX6_readInstruction 24 = .ok (.iload_n 2, 1) := by decide +kernel
theorem dX6_readInstruction_25 : decode cX6_readInstruction 25 = .ok (.ifCond .ne 7, 3) := by decide +kernel
theorem dX6_readInstruction_28 : decode cX6_readInstruction 28 = .ok (.iconst 0, 1) := by decide +kernel
theorem dX6_readInstruction_29 : decode cX6_readInstruction 29 = .ok (.goto 6, 3) := by decide +kernel
theorem dX6_readInstruction_32 : decode cX6_readInstruction 32 = .ok (.iload_n 2, 1) := by decide +kernel
theorem dX6_readInstruction_33 : decode cX6_readInstruction 33 = .ok (.iconst 1, 1) := by decide +kernel
theorem dX6_readInstruction_34 : decode cX6_readInstruction 34 = .ok (.iadd, 1) := by decide +kernel
theorem dX6_readInstruction_35 : decode cX6_readInstruction 35 = .ok (.istore_n 3, 1) := by decide +kernel
theorem dX6_readInstruction_36 : decode cX6_readInstruction 36 = .ok (.iconst 0, 1) := by decide +kernel
theorem dX6_readInstruction_37 : decode cX6_readInstruction 37 = .ok (.istore 4, 2) := by decide +kernel
theorem dX6_readInstruction_39 : decode cX6_readInstruction 39 = .ok (.iconst 0, 1) := by decide +kernel
theorem dX6_readInstruction_40 : decode cX6_readInstruction 40 = .ok (.istore 5, 2) := by decide +kernel
theorem dX6_readInstruction_42 : decode cX6_readInstruction 42 = .ok (.iload 5, 2) := by decide +kernel
theorem dX6_readInstruction_44 : decode cX6_readInstruction 44 = .ok (.iload_n 3, 1) := by decide +kernel
theorem dX6_readInstruction_45 : decode cX6_readInstruction 45 = .ok (.if_icmp .ge 53, 3) := by decide +kernel
theorem dX6_readInstruction_48 : decode cX6_readInstruction 48 = .ok (.aload_n 0, 1) := by decide +kernel
theorem dX6_readInstruction_49 : decode cX6_readInstruction 49 = .ok (.invokevirtual 27, 3) := by decide +kernel
theorem dX6_readInstruction_52 : decode cX6_readInstruction 52 = .ok (.istore 6, 2) := by decide +kernel
theorem dX6_readInstruction_54 : decode cX6_readInstruction 54 = .ok (.iload 6, 2) := by decide +kernel
theorem dX6_readInstruction_56 : decode cX6_readInstruction 56 = .ok (.bipush 48, 2) := by decide +kernel
theorem dX6_readInstruction_58 : decode cX6_readInstruction 58 = .ok (.if_icmp .lt 10, 3) := by decide +kernel
theorem dX6_readInstruction_61 : decode cX6_readInstruction 61 = .ok (.iload 6, 2) := by decide +kernel
theorem dX6_readInstruction_63 : decode cX6_readInstruction 63 = .ok (.bipush 51, 2) := by decide +kernel
theorem dX6_readInstruction_65 : decode cX6_readInstruction 65 = .ok (.if_icmp .le 5, 3) := by decide +kernel
theorem dX6_readInstruction_68 : decode cX6_readInstruction 68 = .ok (.iconst 0, 1) := by decide +kernel
theorem dX6_readInstruction_69 : decode cX6_readInstruction 69 = .ok (.ireturn, 1) := by decide +kernel
theorem dX6_readInstruction_70 : decode cX6_readInstruction 70 = .ok (.aload_n 0, 1) := by decide +kernel
theorem dX6_readInstruction_71 : decode cX6_readInstruction 71 = .ok (.dup, 1) := by decide +kernel
theorem dX6_readInstruction_72 : decode cX6_readInstruction 72 = .ok (.getfield 24, 3) := by decide +kernel
theorem dX6_readInstruction_75 : decode cX6_readInstruction 75 = .ok (.iconst 1, 1) := by decide +kernel
theorem dX6_readInstruction_76 : decode cX6_readInstruction 76 = .ok (.iadd, 1) := by decide +kernel
theorem dX6_readInstruction_77 : decode cX6_readInstruction 77 = .ok (.putfield 24, 3) := by decide +kernel
theorem dX6_readInstruction_80 : decode cX6_readInstruction 80 = .ok (.iload 4, 2) := by decide +kernel
theorem dX6_readInstruction_82 : decode cX6_readInstruction 82 = .ok (.iconst 2, 1) := by decide +kernel
theorem dX6_readInstruction_83 : decode cX6_readInstruction 83 = .ok (.ishl, 1) := by decide +kernel
theorem dX6_readInstruction_84 : decode cX6_readInstruction 84 = .ok (.iload 6, 2) := by decide +kernel
theorem dX6_readInstruction_86 : decode cX6_readInstruction 86 = .ok (.bipush 48, 2) := by decide +kernel
theorem dX6_readInstruction_88 : decode cX6_readInstruction 88 = .ok (.isub, 1) := by decide +kernel
theorem dX6_readInstruction_89 : decode cX6_readInstruction 89 = .ok (.ior, 1) := by decide +kernel
theorem dX6_readInstruction_90 : decode cX6_readInstruction 90 = .ok (.istore 4, 2) := by decide +kernel
theorem dX6_readInstruction_92 : decode cX6_readInstruction 92 = .ok (.iinc 5 1, 3) := by decide +kernel
theorem dX6_readInstruction_95 : decode cX6_readInstruction 95 = .ok (.goto (-53), 3) := by decide +kernel
theorem dX6_readInstruction_98 : decode cX6_readInstruction 98 = .ok (.aload_n 0, 1) := by decide +kernel
theorem dX6_readInstruction_99 : decode cX6_readInstruction 99 = .ok (.bipush 59, 2) := by decide +kernel
theorem dX6_readInstruction_101 : decode cX6_readInstruction 101 = .ok (.invokevirtual 59, 3) := by decide +kernel
theorem dX6_readInstruction_104 : decode cX6_readInstruction 104 = .ok (.ifCond .ne 5, 3) := by decide +kernel
theorem dX6_readInstruction_107 : decode cX6_readInstruction 107 = .ok (.iconst 0, 1) := by decide +kernel
theorem dX6_readInstruction_108 : decode cX6_readInstruction 108 = .ok (.ireturn, 1) := by decide +kernel
theorem dX6_readInstruction_109 : decode cX6_readInstruction 109 = .ok (.iconst 3, 1) := by decide +kernel
theorem dX6_readInstruction_110 : decode cX6_readInstruction 110 = .ok (.iload_n 3, 1) := by decide +kernel
theorem dX6_readInstruction_111 : decode cX6_readInstruction 111 = .ok (.isub, 1) := by decide +kernel
theorem dX6_readInstruction_112 : decode cX6_readInstruction 112 = .ok (.istore 5, 2) := by decide +kernel
theorem dX6_readInstruction_114 : decode cX6_readInstruction 114 = .ok (.aload_n 1, 1) := by decide +kernel
theorem dX6_readInstruction_115 : decode cX6_readInstruction 115 = .ok (.getfield 71, 3) := by decide +kernel
theorem dX6_readInstruction_118 : decode cX6_readInstruction 118 = .ok (.aload_n 1, 1) := by decide +kernel
theorem dX6_readInstruction_119 : decode cX6_readInstruction 119 = .ok (.getfield 71, 3) := by decide +kernel
theorem dX6_readInstruction_122 : decode cX6_readInstruction 122 = .ok (.getfield 75, 3) := by decide +kernel
theorem dX6_readInstruction_125 : decode cX6_readInstruction 125 = .ok (.iload_n 2, 1) := by decide +kernel
theorem dX6_readInstruction_126 : decode cX6_readInstruction 126 = .ok (.iconst 0, 1) := by decide +kernel
theorem dX6_readInstruction_127 : decode cX6_readInstruction 127 = .ok (.iconst 0, 1) := by decide +kernel
theorem dX6_readInstruction_128 : decode cX6_readInstruction 128 = .ok (.iconst 0, 1) := by decide +kernel
theorem dX6_readInstruction_129 : decode cX6_readInstruction 129 = .ok (.invokestatic 78, 3) := by decide +kernel
theorem dX6_readInstruction_132 : decode cX6_readInstruction 132 = .ok (.iload 4, 2) := by decide +kernel
theorem dX6_readInstruction_134 : decode cX6_readInstruction 134 = .ok (.iconst 2, 1) := by decide +kernel
theorem dX6_readInstruction_135 : decode cX6_readInstruction 135 = .ok (.iload 5, 2) := by decide +kernel
theorem dX6_readInstruction_137 : decode cX6_readInstruction 137 = .ok (.imul, 1) := by decide +kernel
theorem dX6_readInstruction_138 : decode cX6_readInstruction 138 = .ok (.ishl, 1) := by decide +kernel
theorem dX6_readInstruction_139 : decode cX6_readInstruction 139 = .ok (.ior, 1) := by decide +kernel
theorem dX6_readInstruction_140 : decode cX6_readInstruction 140 = .ok (.invokevirtual 82, 3) := by decide +kernel
theorem dX6_readInstruction_143 : decode cX6_readInstruction 143 = .ok (.iconst 1, 1) := by decide +kernel
theorem dX6_readInstruction_144 : decode cX6_readInstruction 144 = .ok (.ireturn, 1) := by decide +kernel
theorem dX7_init_0 : decode cX7_init 0 = .ok (.aload_n 0, 1) := by decide +kernel
theorem dX7_init_1 : decode cX7_init 1 = .ok (.invokespecial 1, 3) := by decide +kernel
theorem dX7_init_4 : decode cX7_init 4 = .ok (.aload_n 0, 1) := by decide +kernel
theorem dX7_init_5 : decode cX7_init 5 = .ok (.new 7, 3) := by decide +kernel
theorem dX7_init_8 : decode cX7_init 8 = .ok (.dup, 1) := by decide +kernel
theorem dX7_init_9 : decode cX7_init 9 = .ok (.invokespecial 9, 3) := by decide +kernel
theorem dX7_init_12 : decode cX7_init 12 = .ok (.putfield 10, 3) := by decide +kernel
theorem dX7_init_15 : decode cX7_init 15 = .ok (.aload_n 0, 1) := by decide +kernel
theorem dX7_init_16 : decode cX7_init 16 = .ok (.new 16, 3) := by decide +kernel
theorem dX7_init_19 : decode cX7_init 19 = .ok (.dup, 1) := by decide +kernel
theorem dX7_init_20 : decode cX7_init 20 = .ok (.invokespecial 18, 3) := by decide +kernel
theorem dX7_init_23 : decode cX7_init 23 = .ok (.putfield 19, 3) := by decide +kernel
theorem dX7_init_26 : decode cX7_init 26 = .ok (.return_, 1) := by decide +kernel
theorem dX7_copyFrom_0 : decode cX7_copyFrom 0 = .ok (.aload_n 0, 1) := by decide +kernel
theorem dX7_copyFrom_1 : decode cX7_copyFrom 1 = .ok (.getfield 10, 3) := by decide +kernel
theorem dX7_copyFrom_4 : decode cX7_copyFrom 4 = .ok (.aload_n 1, 1) := by decide +kernel
theorem dX7_copyFrom_5 : decode cX7_copyFrom 5 = .ok (.getfield 10, 3) := by decide +kernel
theorem dX7_copyFrom_8 : decode cX7_copyFrom 8 = .ok (.invokevirtual 23, 3) := by decide +kernel
theorem dX7_copyFrom_11 : decode cX7_copyFrom 11 = .ok (.aload_n 0, 1) := by decide +kernel
theorem dX7_copyFrom_12 : decode cX7_copyFrom 12 = .ok (.getfield 19, 3) := by decide +kernel
theorem dX7_copyFrom_15 : decode cX7_copyFrom 15 = .ok (.aload_n 1, 1) := by decide +kernel
theorem dX7_copyFrom_16 : decode cX7_copyFrom 16 = .ok (.getfield 19, 3) := by decide +kernel
theorem dX7_copyFrom_19 : decode cX7_copyFrom 19 = .ok (.invokevirtual 27, 3) := by decide +kernel
theorem dX7_copyFrom_22 : decode cX7_copyFrom 22 = .ok (.aload_n 0, 1) := by decide +kernel
theorem dX7_copyFrom_23 : decode cX7_copyFrom 23 = .ok (.aload_n 1, 1) := by decide +kernel
theorem dX7_copyFrom_24 : decode cX7_copyFrom 24 = .ok (.getfield 30, 3) := by decide +kernel
theorem dX7_copyFrom_27 : decode cX7_copyFrom 27 = .ok (.putfield 30, 3) := by decide +kernel
theorem dX7_copyFrom_30 : decode cX7_copyFrom 30 = .ok (.return_, 1) := by decide +kernel
theorem dX7_startAs_0 : decode cX7_startAs 0 = .ok (.aload_n 0, 1) := by decide +kernel
theorem dX7_startAs_1 : decode cX7_startAs 1 = .ok (.getfield 10, 3) := by decide +kernel
theorem dX7_startAs_4 : decode cX7_startAs 4 = .ok (.aload_n 1, 1) := by decide +kernel
theorem dX7_startAs_5 : decode cX7_startAs 5 = .ok (.getfield 34, 3) := by decide +kernel
theorem dX7_startAs_8 : decode cX7_startAs 8 = .ok (.invokevirtual 23, 3) := by decide +kernel
theorem dX7_startAs_11 : decode cX7_startAs 11 = .ok (.aload_n 0, 1) := by decide +kernel
theorem dX7_startAs_12 : decode cX7_startAs 12 = .ok (.getfield 19, 3) := by decide +kernel
theorem dX7_startAs_15 : decode cX7_startAs 15 = .ok (.invokevirtual 37, 3) := by decide +kernel
theorem dX7_startAs_18 : decode cX7_startAs 18 = .ok (.aload_n 0, 1) := by decide +kernel
theorem dX7_startAs_19 : decode cX7_startAs 19 = .ok (.iconst 1, 1) := by decide +kernel
theorem dX7_startAs_20 : decode cX7_startAs 20 = .ok (.aload_n 1, 1) := by decide +kernel
theorem dX7_startAs_21 : decode cX7_startAs 21 = .ok (.getfield 40, 3) := by decide +kernel
theorem dX7_startAs_24 : decode cX7_startAs 24 = .ok (.ishl, 1) := by decide +kernel
theorem dX7_startAs_25 : decode cX7_startAs 25 = .ok (.iconst 1, 1) := by decide +kernel
theorem dX7_startAs_26 : decode cX7_startAs 26 = .ok (.isub, 1) := by decide +kernel
theorem dX7_startAs_27 : decode cX7_startAs 27 = .ok (.putfield 30, 3) := by decide +kernel
theorem dX7_startAs_30 : decode cX7_startAs 30 = .ok (.return_, 1) := by decide +kernel
theorem dX8_init_0 : decode cX8_init 0 = .ok (.aload_n 0, 1) := by decide +kernel
theorem dX8_init_1 : decode cX8_init 1 = .ok (.invokespecial 3, 3) := by decide +kernel
theorem dX8_init_4 : decode cX8_init 4 = .ok (.iload_n 1, 1) := by decide +kernel
theorem dX8_init_5 : decode cX8_init 5 = .ok (.iconst 4, 1) := by decide +kernel
theorem dX8_init_6 : decode cX8_init 6 = .ok (.invokestatic 9, 3) := by decide +kernel
theorem dX8_init_9 : decode cX8_init 9 = .ok (.istore_n 2, 1) := by decide +kernel
theorem dX8_init_10 : decode cX8_init 10 = .ok (.aload_n 0, 1) := by decide +kernel
theorem dX8_init_11 : decode cX8_init 11 = .ok (.iload_n 2, 1) := by decide +kernel
theorem dX8_init_12 : decode cX8_init 12 = .ok (.newarray .int, 2) := by decide +kernel
theorem dX8_init_14 : decode cX8_init 14 = .ok (.putfield 15, 3) := by decide +kernel
theorem dX8_init_17 : decode cX8_init 17 = .ok (.aload_n 0, 1) := by decide +kernel
theorem dX8_init_18 : decode cX8_init 18 = .ok (.iload_n 2, 1) := by decide +kernel
theorem dX8_init_19 : decode cX8_init 19 = .ok (.newarray .int, 2) := by decide +kernel
theorem dX8_init_21 : decode cX8_init 21 = .ok (.putfield 21, 3) := by decide +kernel
theorem dX8_init_24 : decode cX8_init 24 = .ok (.aload_n 0, 1) := by decide +kernel
theorem dX8_init_25 : decode cX8_init 25 = .ok (.iload_n 2, 1) := by decide +kernel
theorem dX8_init_26 : decode cX8_init 26 = .ok (.newarray .int, 2) := by decide +kernel
theorem dX8_init_28 : decode cX8_init 28 = .ok (.putfield 24, 3) := by decide +kernel
theorem dX8_init_31 : decode cX8_init 31 = .ok (.aload_n 0, 1) := by decide +kernel
theorem dX8_init_32 : decode cX8_init 32 = .ok (.iload_n 2, 1) := by decide +kernel
theorem dX8_init_33 : decode cX8_init 33 = .ok (.newarray .int, 2) := by decide +kernel
theorem dX8_init_35 : decode cX8_init 35 = .ok (.putfield 27, 3) := by decide +kernel
theorem dX8_init_38 : decode cX8_init 38 = .ok (.aload_n 0, 1) := by decide +kernel
theorem dX8_init_39 : decode cX8_init 39 = .ok (.iload_n 2, 1) := by decide +kernel
theorem dX8_init_40 : decode cX8_init 40 = .ok (.newarray .int, 2) := by decide +kernel
theorem dX8_init_42 : decode cX8_init 42 = .ok (.putfield 30, 3) := by decide +kernel
theorem dX8_init_45 : decode cX8_init 45 = .ok (.iconst 0, 1) := by decide +kernel
theorem dX8_init_46 : decode cX8_init 46 = .ok (.istore_n 3, 1) := by decide +kernel
theorem dX8_init_47 : decode cX8_init 47 = .ok (.iload_n 3, 1) := by decide +kernel
theorem dX8_init_48 : decode cX8_init 48 = .ok (.iconst 4, 1) := by decide +kernel
theorem dX8_init_49 : decode cX8_init 49 = .ok (.if_icmp .ge 37, 3) := by decide +kernel
theorem dX8_init_52 : decode cX8_init 52 = .ok (.aload_n 0, 1) := by decide +kernel
theorem dX8_init_53 : decode cX8_init 53 = .ok (.getfield 15, 3) := by decide +kernel
