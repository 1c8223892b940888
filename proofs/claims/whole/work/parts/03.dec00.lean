theorem dX0_init_0 : decode cX0_init 0 = .ok (.aload_n 0, 1) := by decide +kernel
theorem dX0_init_1 : decode cX0_init 1 = .ok (.invokespecial 3, 3) := by decide +kernel
theorem dX0_init_4 : decode cX0_init 4 = .ok (.aload_n 0, 1) := by decide +kernel
theorem dX0_init_5 : decode cX0_init 5 = .ok (.new 9, 3) := by decide +kernel
theorem dX0_init_8 : decode cX0_init 8 = .ok (.dup, 1) := by decide +kernel
theorem dX0_init_9 : decode cX0_init 9 = .ok (.invokespecial 11, 3) := by decide +kernel
theorem dX0_init_12 : decode cX0_init 12 = .ok (.putfield 12, 3) := by decide +kernel
theorem dX0_init_15 : decode cX0_init 15 = .ok (.aload_n 0, 1) := by decide +kernel
theorem dX0_init_16 : decode cX0_init 16 = .ok (.new 18, 3) := by decide +kernel
theorem dX0_init_19 : decode cX0_init 19 = .ok (.dup, 1) := by decide +kernel
theorem dX0_init_20 : decode cX0_init 20 = .ok (.bipush 12, 2) := by decide +kernel
theorem dX0_init_22 : decode cX0_init 22 = .ok (.invokespecial 20, 3) := by decide +kernel
theorem dX0_init_25 : decode cX0_init 25 = .ok (.putfield 23, 3) := by decide +kernel
theorem dX0_init_28 : decode cX0_init 28 = .ok (.aload_n 0, 1) := by decide +kernel
theorem dX0_init_29 : decode cX0_init 29 = .ok (.new 27, 3) := by decide +kernel
theorem dX0_init_32 : decode cX0_init 32 = .ok (.dup, 1) := by decide +kernel
theorem dX0_init_33 : decode cX0_init 33 = .ok (.invokespecial 29, 3) := by decide +kernel
theorem dX0_init_36 : decode cX0_init 36 = .ok (.putfield 30, 3) := by decide +kernel
theorem dX0_init_39 : decode cX0_init 39 = .ok (.aload_n 0, 1) := by decide +kernel
theorem dX0_init_40 : decode cX0_init 40 = .ok (.bipush 32, 2) := by decide +kernel
theorem dX0_init_42 : decode cX0_init 42 = .ok (.newarray .int, 2) := by decide +kernel
theorem dX0_init_44 : decode cX0_init 44 = .ok (.putfield 34, 3) := by decide +kernel
theorem dX0_init_47 : decode cX0_init 47 = .ok (.aload_n 0, 1) := by decide +kernel
theorem dX0_init_48 : decode cX0_init 48 = .ok (.getfield 34, 3) := by decide +kernel
theorem dX0_init_51 : decode cX0_init 51 = .ok (.iconst (-1), 1) := by decide +kernel
theorem dX0_init_52 : decode cX0_init 52 = .ok (.invokestatic 38, 3) := by decide +kernel
theorem dX0_init_55 : decode cX0_init 55 = .ok (.return_, 1) := by decide +kernel
theorem dX0_programBy_0 : decode cX0_programBy 0 = .ok (.aload_n 1, 1) := by decide +kernel
theorem dX0_programBy_1 : decode cX0_programBy 1 = .ok (.getfield 44, 3) := by decide +kernel
theorem dX0_programBy_4 : decode cX0_programBy 4 = .ok (.bipush 8, 2) := by decide +kernel
theorem dX0_programBy_6 : decode cX0_programBy 6 = .ok (.imul, 1) := by decide +kernel
theorem dX0_programBy_7 : decode cX0_programBy 7 = .ok (.aload_n 1, 1) := by decide +kernel
theorem dX0_programBy_8 : decode cX0_programBy 8 = .ok (.getfield 50, 3) := by decide +kernel
theorem dX0_programBy_11 : decode cX0_programBy 11 = .ok (.iadd, 1) := by decide +kernel
theorem dX0_programBy_12 : decode cX0_programBy 12 = .ok (.istore_n 2, 1) := by decide +kernel
theorem dX0_programBy_13 : decode cX0_programBy 13 = .ok (.aload_n 1, 1) := by decide +kernel
theorem dX0_programBy_14 : decode cX0_programBy 14 = .ok (.invokevirtual 53, 3) := by decide +kernel
theorem dX0_programBy_17 : decode cX0_programBy 17 = .ok (.ifCond .ne 16, 3) := by decide +kernel
theorem dX0_programBy_20 : decode cX0_programBy 20 = .ok (.iload_n 2, 1) := by decide +kernel
theorem dX0_programBy_21 : decode cX0_programBy 21 = .ok (.ifCond .lt 12, 3) := by decide +kernel
theorem dX0_programBy_24 : decode cX0_programBy 24 = .ok (.iload_n 2, 1) := by decide +kernel
theorem dX0_programBy_25 : decode cX0_programBy 25 = .ok (.aload_n 0, 1) := by decide +kernel
theorem dX0_programBy_26 : decode cX0_programBy 26 = .ok (.getfield 34, 3) := by decide +kernel
theorem dX0_programBy_29 : decode cX0_programBy 29 = .ok (.arraylength, 1) := by decide +kernel
theorem dX0_programBy_30 : decode cX0_programBy 30 = .ok (.if_icmp .lt 5, 3) := by decide +kernel
theorem dX0_programBy_33 : decode cX0_programBy 33 = .ok (.iconst 0, 1) := by decide +kernel
theorem dX0_programBy_34 : decode cX0_programBy 34 = .ok (.ireturn, 1) := by decide +kernel
theorem dX0_programBy_35 : decode cX0_programBy 35 = .ok (.aload_n 0, 1) := by decide +kernel
theorem dX0_programBy_36 : decode cX0_programBy 36 = .ok (.getfield 34, 3) := by decide +kernel
theorem dX0_programBy_39 : decode cX0_programBy 39 = .ok (.iload_n 2, 1) := by decide +kernel
theorem dX0_programBy_40 : decode cX0_programBy 40 = .ok (.iaload, 1) := by decide +kernel
theorem dX0_programBy_41 : decode cX0_programBy 41 = .ok (.iconst (-1), 1) := by decide +kernel
theorem dX0_programBy_42 : decode cX0_programBy 42 = .ok (.if_icmp .ne 14, 3) := by decide +kernel
theorem dX0_programBy_45 : decode cX0_programBy 45 = .ok (.aload_n 0, 1) := by decide +kernel
theorem dX0_programBy_46 : decode cX0_programBy 46 = .ok (.getfield 34, 3) := by decide +kernel
theorem dX0_programBy_49 : decode cX0_programBy 49 = .ok (.iload_n 2, 1) := by decide +kernel
theorem dX0_programBy_50 : decode cX0_programBy 50 = .ok (.aload_n 0, 1) := by decide +kernel
theorem dX0_programBy_51 : decode cX0_programBy 51 = .ok (.aload_n 1, 1) := by decide +kernel
theorem dX0_programBy_52 : decode cX0_programBy 52 = .ok (.invokevirtual 57, 3) := by decide +kernel
theorem dX0_programBy_55 : decode cX0_programBy 55 = .ok (.iastore, 1) := by decide +kernel
theorem dX0_programBy_56 : decode cX0_programBy 56 = .ok (.aload_n 0, 1) := by decide +kernel
theorem dX0_programBy_57 : decode cX0_programBy 57 = .ok (.getfield 34, 3) := by decide +kernel
theorem dX0_programBy_60 : decode cX0_programBy 60 = .ok (.iload_n 2, 1) := by decide +kernel
theorem dX0_programBy_61 : decode cX0_programBy 61 = .ok (.iaload, 1) := by decide +kernel
theorem dX0_programBy_62 : decode cX0_programBy 62 = .ok (.ireturn, 1) := by decide +kernel
theorem dX0_seek_0 : decode cX0_seek 0 = .ok (.iconst 1, 1) := by decide +kernel
theorem dX0_seek_1 : decode cX0_seek 1 = .ok (.istore_n 2, 1) := by decide +kernel
theorem dX0_seek_2 : decode cX0_seek 2 = .ok (.iload_n 2, 1) := by decide +kernel
theorem dX0_seek_3 : decode cX0_seek 3 = .ok (.iconst 4, 1) := by decide +kernel
theorem dX0_seek_4 : decode cX0_seek 4 = .ok (.if_icmp .gt 93, 3) := by decide +kernel
theorem dX0_seek_7 : decode cX0_seek 7 = .ok (.iconst 1, 1) := by decide +kernel
theorem dX0_seek_8 : decode cX0_seek 8 = .ok (.iconst 3, 1) := by decide +kernel
theorem dX0_seek_9 : decode cX0_seek 9 = .ok (.iload_n 2, 1) := by decide +kernel
theorem dX0_seek_10 : decode cX0_seek 10 = .ok (.imul, 1) := by decide +kernel
theorem dX0_seek_11 : decode cX0_seek 11 = .ok (.ishl, 1) := by decide +kernel
theorem dX0_seek_12 : decode cX0_seek 12 = .ok (.istore_n 3, 1) := by decide +kernel
theorem dX0_seek_13 : decode cX0_seek 13 = .ok (.iconst 0, 1) := by decide +kernel
theorem dX0_seek_14 : decode cX0_seek 14 = .ok (.istore 4, 2) := by decide +kernel
theorem dX0_seek_16 : decode cX0_seek 16 = .ok (.iload 4, 2) := by decide +kernel
theorem dX0_seek_18 : decode cX0_seek 18 = .ok (.iload_n 3, 1) := by decide +kernel
theorem dX0_seek_19 : decode cX0_seek 19 = .ok (.if_icmp .ge 72, 3) := by decide +kernel
theorem dX0_seek_22 : decode cX0_seek 22 = .ok (.aload_n 0, 1) := by decide +kernel
theorem dX0_seek_23 : decode cX0_seek 23 = .ok (.iload_n 2, 1) := by decide +kernel
theorem dX0_seek_24 : decode cX0_seek 24 = .ok (.iload 4, 2) := by decide +kernel
theorem dX0_seek_26 : decode cX0_seek 26 = .ok (.invokevirtual 61, 3) := by decide +kernel
theorem dX0_seek_29 : decode cX0_seek 29 = .ok (.aload_n 0, 1) := by decide +kernel
theorem dX0_seek_30 : decode cX0_seek 30 = .ok (.getfield 23, 3) := by decide +kernel
theorem dX0_seek_33 : decode cX0_seek 33 = .ok (.invokevirtual 65, 3) := by decide +kernel
theorem dX0_seek_36 : decode cX0_seek 36 = .ok (.aload_n 0, 1) := by decide +kernel
theorem dX0_seek_37 : decode cX0_seek 37 = .ok (.getfield 30, 3) := by decide +kernel
theorem dX0_seek_40 : decode cX0_seek 40 = .ok (.aload_n 0, 1) := by decide +kernel
theorem dX0_seek_41 : decode cX0_seek 41 = .ok (.getfield 12, 3) := by decide +kernel
theorem dX0_seek_44 : decode cX0_seek 44 = .ok (.aload_n 0, 1) := by decide +kernel
theorem dX0_seek_45 : decode cX0_seek 45 = .ok (.getfield 23, 3) := by decide +kernel
theorem dX0_seek_48 : decode cX0_seek 48 = .ok (.invokevirtual 68, 3) := by decide +kernel
theorem dX0_seek_51 : decode cX0_seek 51 = .ok (.aload_n 0, 1) := by decide +kernel
theorem dX0_seek_52 : decode cX0_seek 52 = .ok (.getfield 30, 3) := by decide +kernel
theorem dX0_seek_55 : decode cX0_seek 55 = .ok (.aload_n 0, 1) := by decide +kernel
theorem dX0_seek_56 : decode cX0_seek 56 = .ok (.getfield 12, 3) := by decide +kernel
theorem dX0_seek_59 : decode cX0_seek 59 = .ok (.aload_n 1, 1) := by decide +kernel
theorem dX0_seek_60 : decode cX0_seek 60 = .ok (.aload_n 0, 1) := by decide +kernel
theorem dX0_seek_61 : decode cX0_seek 61 = .ok (.getfield 23, 3) := by decide +kernel
theorem dX0_seek_64 : decode cX0_seek 64 = .ok (.invokevirtual 72, 3) := by decide +kernel
theorem dX0_seek_67 : decode cX0_seek 67 = .ok (.aload_n 0, 1) := by decide +kernel
theorem dX0_seek_68 : decode cX0_seek 68 = .ok (.getfield 30, 3) := by decide +kernel
theorem dX0_seek_71 : decode cX0_seek 71 = .ok (.invokevirtual 76, 3) := by decide +kernel
theorem dX0_seek_74 : decode cX0_seek 74 = .ok (.ifCond .eq 11, 3) := by decide +kernel
theorem dX0_seek_77 : decode cX0_seek 77 = .ok (.iload_n 2, 1) := by decide +kernel
theorem dX0_seek_78 : decode cX0_seek 78 = .ok (.bipush 12, 2) := by decide +kernel
theorem dX0_seek_80 : decode cX0_seek 80 = .ok (.ishl, 1) := by decide +kernel
theorem dX0_seek_81 : decode cX0_seek 81 = .ok (.iload 4, 2) := by decide +kernel
theorem dX0_seek_83 : decode cX0_seek 83 = .ok (.ior, 1) := by decide +kernel
theorem dX0_seek_84 : decode cX0_seek 84 = .ok (.ireturn, 1) := by decide +kernel
theorem dX0_seek_85 : decode cX0_seek 85 = .ok (.iinc 4 1, 3) := by decide +kernel
theorem dX0_seek_88 : decode cX0_seek 88 = .ok (.goto (-72), 3) := by decide +kernel
theorem dX0_seek_91 : decode cX0_seek 91 = .ok (.iinc 2 1, 3) := by decide +kernel
theorem dX0_seek_94 : decode cX0_seek 94 = .ok (.goto (-92), 3) := by decide +kernel
theorem dX0_seek_97 : decode cX0_seek 97 = .ok (.iconst 0, 1) := by decide +kernel
theorem dX0_seek_98 : decode cX0_seek 98 = .ok (.ireturn, 1) := by decide +kernel
theorem dX0_writeProgram_0 : decode cX0_writeProgram 0 = .ok (.aload_n 0, 1) := by decide +kernel
theorem dX0_writeProgram_1 : decode cX0_writeProgram 1 = .ok (.getfield 12, 3) := by decide +kernel
theorem dX0_writeProgram_4 : decode cX0_writeProgram 4 = .ok (.invokevirtual 80, 3) := by decide +kernel
theorem dX0_writeProgram_7 : decode cX0_writeProgram 7 = .ok (.iconst 0, 1) := by decide +kernel
theorem dX0_writeProgram_8 : decode cX0_writeProgram 8 = .ok (.istore_n 3, 1) := by decide +kernel
theorem dX0_writeProgram_9 : decode cX0_writeProgram 9 = .ok (.iload_n 3, 1) := by decide +kernel
theorem dX0_writeProgram_10 : decode cX0_writeProgram 10 = .ok (.iload_n 1, 1) := by decide +kernel
theorem dX0_writeProgram_11 : decode cX0_writeProgram 11 = .ok (.if_icmp .ge 45, 3) := by decide +kernel
theorem dX0_writeProgram_14 : decode cX0_writeProgram 14 = .ok (.iload_n 1, 1) := by decide +kernel
theorem dX0_writeProgram_15 : decode cX0_writeProgram 15 = .ok (.iload_n 2, 1) := by decide +kernel
theorem dX0_writeProgram_16 : decode cX0_writeProgram 16 = .ok (.iload_n 3, 1) := by decide +kernel
theorem dX0_writeProgram_17 : decode cX0_writeProgram 17 = .ok (.invokestatic 83, 3) := by decide +kernel
theorem dX0_writeProgram_20 : decode cX0_writeProgram 20 = .ok (.istore 4, 2) := by decide +kernel
theorem dX0_writeProgram_22 : decode cX0_writeProgram 22 = .ok (.aload_n 0, 1) := by decide +kernel
theorem dX0_writeProgram_23 : decode cX0_writeProgram 23 = .ok (.getfield 12, 3) := by decide +kernel
theorem dX0_writeProgram_26 : decode cX0_writeProgram 26 = .ok (.iload_n 3, 1) := by decide +kernel
theorem dX0_writeProgram_27 : decode cX0_writeProgram 27 = .ok (.iconst 2, 1) := by decide +kernel
theorem dX0_writeProgram_28 : decode cX0_writeProgram 28 = .ok (.iload 4, 2) := by decide +kernel
theorem dX0_writeProgram_30 : decode cX0_writeProgram 30 = .ok (.iconst 2, 1) := by decide +kernel
theorem dX0_writeProgram_31 : decode cX0_writeProgram 31 = .ok (.ishr, 1) := by decide +kernel
theorem dX0_writeProgram_32 : decode cX0_writeProgram 32 = .ok (.iconst 1, 1) := by decide +kernel
theorem dX0_writeProgram_33 : decode cX0_writeProgram 33 = .ok (.iand, 1) := by decide +kernel
theorem dX0_writeProgram_34 : decode cX0_writeProgram 34 = .ok (.iload 4, 2) := by decide +kernel
theorem dX0_writeProgram_36 : decode cX0_writeProgram 36 = .ok (.iconst 1, 1) := by decide +kernel
theorem dX0_writeProgram_37 : decode cX0_writeProgram 37 = .ok (.ishr, 1) := by decide +kernel
theorem dX0_writeProgram_38 : decode cX0_writeProgram 38 = .ok (.iconst 1, 1) := by decide +kernel
theorem dX0_writeProgram_39 : decode cX0_writeProgram 39 = .ok (.iand, 1) := by decide +kernel
theorem dX0_writeProgram_40 : decode cX0_writeProgram 40 = .ok (.iload 4, 2) := by decide +kernel
theorem dX0_writeProgram_42 : decode cX0_writeProgram 42 = .ok (.iconst 1, 1) := by decide +kernel
theorem dX0_writeProgram_43 : decode cX0_writeProgram 43 = .ok (.iand, 1) := by decide +kernel
theorem dX0_writeProgram_44 : decode cX0_writeProgram 44 = .ok (.invokestatic 87, 3) := by decide +kernel
theorem dX0_writeProgram_47 : decode cX0_writeProgram 47 = .ok (.invokevirtual 91, 3) := by decide +kernel
theorem dX0_writeProgram_50 : decode cX0_writeProgram 50 = .ok (.iinc 3 1, 3) := by decide +kernel
theorem dX0_writeProgram_53 : decode cX0_writeProgram 53 = .ok (.goto (-44), 3) := by decide +kernel
theorem dX0_writeProgram_56 : decode cX0_writeProgram 56 = .ok (.return_, 1) := by decide +kernel
theorem dX0_figureAt_0 : decode cX0_figureAt 0 = .ok (.iload_n 1, 1) := by decide +kernel
theorem dX0_figureAt_1 : decode cX0_figureAt 1 = .ok (.iconst 3, 1) := by decide +kernel
theorem dX0_figureAt_2 : decode cX0_figureAt 2 = .ok (.iload_n 0, 1) := by decide +kernel
theorem dX0_figureAt_3 : decode cX0_figureAt 3 = .ok (.iconst 1, 1) := by decide +kernel
theorem dX0_figureAt_4 : decode cX0_figureAt 4 = .ok (.isub, 1) := by decide +kernel
theorem dX0_figureAt_5 : decode cX0_figureAt 5 = .ok (.iload_n 2, 1) := by decide +kernel
theorem dX0_figureAt_6 : decode cX0_figureAt 6 = .ok (.isub, 1) := by decide +kernel
theorem dX0_figureAt_7 : decode cX0_figureAt 7 = .ok (.imul, 1) := by decide +kernel
theorem dX0_figureAt_8 : decode cX0_figureAt 8 = .ok (.ishr, 1) := by decide +kernel
theorem dX0_figureAt_9 : decode cX0_figureAt 9 = .ok (.bipush 7, 2) := by decide +kernel
theorem dX0_figureAt_11 : decode cX0_figureAt 11 = .ok (.iand, 1) := by decide +kernel
theorem dX0_figureAt_12 : decode cX0_figureAt 12 = .ok (.ireturn, 1) := by decide +kernel
theorem dX0_sizeOf_0 : decode cX0_sizeOf 0 = .ok (.iload_n 0, 1) := by decide +kernel
theorem dX0_sizeOf_1 : decode cX0_sizeOf 1 = .ok (.bipush 12, 2) := by decide +kernel
theorem dX0_sizeOf_3 : decode cX0_sizeOf 3 = .ok (.ishr, 1) := by decide +kernel
theorem dX0_sizeOf_4 : decode cX0_sizeOf 4 = .ok (.ireturn, 1) := by decide +kernel
theorem dX0_numberAt_0 : decode cX0_numberAt 0 = .ok (.iload_n 0, 1) := by decide +kernel
theorem dX0_numberAt_1 : decode cX0_numberAt 1 = .ok (.invokestatic 94, 3) := by decide +kernel
theorem dX0_numberAt_4 : decode cX0_numberAt 4 = .ok (.iload_n 0, 1) := by decide +kernel
theorem dX0_numberAt_5 : decode cX0_numberAt 5 = .ok (.iload_n 1, 1) := by decide +kernel
theorem dX0_numberAt_6 : decode cX0_numberAt 6 = .ok (.invokestatic 83, 3) := by decide +kernel
theorem dX0_numberAt_9 : decode cX0_numberAt 9 = .ok (.ireturn, 1) := by decide +kernel
theorem dX1_init_0 : decode cX1_init 0 = .ok (.aload_n 0, 1) := by decide +kernel
theorem dX1_init_1 : decode cX1_init 1 = .ok (.invokespecial 3, 3) := by decide +kernel
theorem dX1_init_4 : decode cX1_init 4 = .ok (.aload_n 0, 1) := by decide +kernel
theorem dX1_init_5 : decode cX1_init 5 = .ok (.bipush 116, 2) := by decide +kernel
theorem dX1_init_7 : decode cX1_init 7 = .ok (.newarray .int, 2) := by decide +kernel
theorem dX1_init_9 : decode cX1_init 9 = .ok (.putfield 9, 3) := by decide +kernel
theorem dX1_init_12 : decode cX1_init 12 = .ok (.aload_n 0, 1) := by decide +kernel
theorem dX1_init_13 : decode cX1_init 13 = .ok (.bipush 116, 2) := by decide +kernel
theorem dX1_init_15 : decode cX1_init 15 = .ok (.newarray .int, 2) := by decide +kernel
theorem dX1_init_17 : decode cX1_init 17 = .ok (.putfield 15, 3) := by decide +kernel
theorem dX1_init_20 : decode cX1_init 20 = .ok (.aload_n 0, 1) := by decide +kernel
theorem dX1_init_21 : decode cX1_init 21 = .ok (.bipush 116, 2) := by decide +kernel
theorem dX1_init_23 : decode cX1_init 23 = .ok (.newarray .int, 2) := by decide +kernel
theorem dX1_init_25 : decode cX1_init 25 = .ok (.putfield 18, 3) := by decide +kernel
theorem dX1_init_28 : decode cX1_init 28 = .ok (.return_, 1) := by decide +kernel
theorem dX1_closeBy_0 : decode cX1_closeBy 0 = .ok (.aload_n 0, 1) := by decide +kernel
theorem dX1_closeBy_1 : decode cX1_closeBy 1 = .ok (.aload_n 1, 1) := by decide +kernel
theorem dX1_closeBy_2 : decode cX1_closeBy 2 = .ok (.getfield 21, 3) := by decide +kernel
theorem dX1_closeBy_5 : decode cX1_closeBy 5 = .ok (.getfield 27, 3) := by decide +kernel
theorem dX1_closeBy_8 : decode cX1_closeBy 8 = .ok (.bipush 116, 2) := by decide +kernel
theorem dX1_closeBy_10 : decode cX1_closeBy 10 = .ok (.invokestatic 33, 3) := by decide +kernel
theorem dX1_closeBy_13 : decode cX1_closeBy 13 = .ok (.putfield 39, 3) := by decide +kernel
theorem dX1_closeBy_16 : decode cX1_closeBy 16 = .ok (.iconst 0, 1) := by decide +kernel
theorem dX1_closeBy_17 : decode cX1_closeBy 17 = .ok (.istore_n 3, 1) := by decide +kernel
theorem dX1_closeBy_18 : decode cX1_closeBy 18 = .ok (.iload_n 3, 1) := by decide +kernel
theorem dX1_closeBy_19 : decode cX1_closeBy 19 = .ok (.aload_n 0, 1) := by decide +kernel
theorem dX1_closeBy_20 : decode cX1_closeBy 20 = .ok (.getfield 39, 3) := by decide +kernel
theorem dX1_closeBy_23 : decode cX1_closeBy 23 = .ok (.if_icmp .ge 22, 3) := by decide +kernel
theorem dX1_closeBy_26 : decode cX1_closeBy 26 = .ok (.iload_n 3, 1) := by decide +kernel
theorem dX1_closeBy_27 : decode cX1_closeBy 27 = .ok (.bipush 116, 2) := by decide +kernel
theorem dX1_closeBy_29 : decode cX1_closeBy 29 = .ok (.if_icmp .ge 16, 3) := by decide +kernel
theorem dX1_closeBy_32 : decode cX1_closeBy 32 = .ok (.aload_n 0, 1) := by decide +kernel
theorem dX1_closeBy_33 : decode cX1_closeBy 33 = .ok (.getfield 9, 3) := by decide +kernel
theorem dX1_closeBy_36 : decode cX1_closeBy 36 = .ok (.iload_n 3, 1) := by decide +kernel
theorem dX1_closeBy_37 : decode cX1_closeBy 37 = .ok (.iload_n 3, 1) := by decide +kernel
theorem dX1_closeBy_38 : decode cX1_closeBy 38 = .ok (.iastore, 1) := by decide +kernel
theorem dX1_closeBy_39 : decode cX1_closeBy 39 = .ok (.iinc 3 1, 3) := by decide +kernel
theorem dX1_closeBy_42 : decode cX1_closeBy 42 = .ok (.goto (-24), 3) := by decide +kernel
theorem dX1_closeBy_45 : decode cX1_closeBy 45 = .ok (.iconst 0, 1) := by decide +kernel
theorem dX1_closeBy_46 : decode cX1_closeBy 46 = .ok (.istore_n 3, 1) := by decide +kernel
theorem dX1_closeBy_47 : decode cX1_closeBy 47 = .ok (.iload_n 3, 1) := by decide +kernel
theorem dX1_closeBy_48 : decode cX1_closeBy 48 = .ok (.aload_n 1, 1) := by decide +kernel
theorem dX1_closeBy_49 : decode cX1_closeBy 49 = .ok (.getfield 40, 3) := by decide +kernel
theorem dX1_closeBy_52 : decode cX1_closeBy 52 = .ok (.if_icmp .ge 33, 3) := by decide +kernel
theorem dX1_closeBy_55 : decode cX1_closeBy 55 = .ok (.aload_n 1, 1) := by decide +kernel
theorem dX1_closeBy_56 : decode cX1_closeBy 56 = .ok (.iload_n 2, 1) := by decide +kernel
theorem dX1_closeBy_57 : decode cX1_closeBy 57 = .ok (.iload_n 3, 1) := by decide +kernel
theorem dX1_closeBy_58 : decode cX1_closeBy 58 = .ok (.iconst 1, 1) := by decide +kernel
theorem dX1_closeBy_59 : decode cX1_closeBy 59 = .ok (.invokevirtual 43, 3) := by decide +kernel
theorem dX1_closeBy_62 : decode cX1_closeBy 62 = .ok (.ifCond .eq 17, 3) := by decide +kernel
theorem dX1_closeBy_65 : decode cX1_closeBy 65 = .ok (.aload_n 0, 1) := by decide +kernel
theorem dX1_closeBy_66 : decode cX1_closeBy 66 = .ok (.aload_n 1, 1) := by decide +kernel
theorem dX1_closeBy_67 : decode cX1_closeBy 67 = .ok (.iload_n 3, 1) := by decide +kernel
theorem dX1_closeBy_68 : decode cX1_closeBy 68 = .ok (.invokevirtual 47, 3) := by decide +kernel
theorem dX1_closeBy_71 : decode cX1_closeBy 71 = .ok (.aload_n 1, 1) := by decide +kernel
theorem dX1_closeBy_72 : decode cX1_closeBy 72 = .ok (.iload_n 3, 1) := by decide +kernel
theorem dX1_closeBy_73 : decode cX1_closeBy 73 = .ok (.invokevirtual 51, 3) := by decide +kernel
theorem dX1_closeBy_76 : decode cX1_closeBy 76 = .ok (.invokevirtual 54, 3) := by decide +kernel
theorem dX1_closeBy_79 : decode cX1_closeBy 79 = .ok (.iinc 3 1, 3) := by decide +kernel
theorem dX1_closeBy_82 : decode cX1_closeBy 82 = .ok (.goto (-35), 3) := by decide +kernel
theorem dX1_closeBy_85 : decode cX1_closeBy 85 = .ok (.aload_n 0, 1) := by decide +kernel
theorem dX1_closeBy_86 : decode cX1_closeBy 86 = .ok (.aload_n 1, 1) := by decide +kernel
theorem dX1_closeBy_87 : decode cX1_closeBy 87 = .ok (.getfield 21, 3) := by decide +kernel
theorem dX1_closeBy_90 : decode cX1_closeBy 90 = .ok (.invokevirtual 58, 3) := by decide +kernel
theorem dX1_closeBy_93 : decode cX1_closeBy 93 = .ok (.return_, 1) := by decide +kernel
theorem dX1_assume_0 : decode cX1_assume 0 = .ok (.aload_n 0, 1) := by decide +kernel
theorem dX1_assume_1 : decode cX1_assume 1 = .ok (.iload_n 2, 1) := by decide +kernel
theorem dX1_assume_2 : decode cX1_assume 2 = .ok (.iload_n 3, 1) := by decide +kernel
theorem dX1_assume_3 : decode cX1_assume 3 = .ok (.invokevirtual 54, 3) := by decide +kernel
theorem dX1_assume_6 : decode cX1_assume 6 = .ok (.aload_n 0, 1) := by decide +kernel
theorem dX1_assume_7 : decode cX1_assume 7 = .ok (.aload_n 1, 1) := by decide +kernel
theorem dX1_assume_8 : decode cX1_assume 8 = .ok (.getfield 21, 3) := by decide +kernel
theorem dX1_assume_11 : decode cX1_assume 11 = .ok (.invokevirtual 58, 3) := by decide +kernel
theorem dX1_assume_14 : decode cX1_assume 14 = .ok (.return_, 1) := by decide +kernel
theorem dX1_same_0 : decode cX1_same 0 = .ok (.aload_n 0, 1) := by decide +kernel
theorem dX1_same_1 : decode cX1_same 1 = .ok (.iload_n 1, 1) := by decide +kernel
theorem dX1_same_2 : decode cX1_same 2 = .ok (.invokevirtual 62, 3) := by decide +kernel
theorem dX1_same_5 : decode cX1_same 5 = .ok (.istore_n 3, 1) := by decide +kernel
theorem dX1_same_6 : decode cX1_same 6 = .ok (.iload_n 3, 1) := by decide +kernel
theorem dX1_same_7 : decode cX1_same 7 = .ok (.iconst (-1), 1) := by decide +kernel
theorem dX1_same_8 : decode cX1_same 8 = .ok (.if_icmp .eq 16, 3) := by decide +kernel
theorem dX1_same_11 : decode cX1_same 11 = .ok (.iload_n 3, 1) := by decide +kernel
theorem dX1_same_12 : decode cX1_same 12 = .ok (.aload_n 0, 1) := by decide +kernel
theorem dX1_same_13 : decode cX1_same 13 = .ok (.iload_n 2, 1) := by decide +kernel
theorem dX1_same_14 : decode cX1_same 14 = .ok (.invokevirtual 62, 3) := by decide +kernel
theorem dX1_same_17 : decode cX1_same 17 = .ok (.if_icmp .ne 7, 3) := by decide +kernel
theorem dX1_same_20 : decode cX1_same 20 = .ok (.iconst 1, 1) := by decide +kernel
theorem dX1_same_21 : decode cX1_same 21 = .ok (.goto 4, 3) := by decide +kernel
theorem dX1_same_24 : decode cX1_same 24 = .ok (.iconst 0, 1) := by decide +kernel
theorem dX1_same_25 : decode cX1_same 25 = .ok (.ireturn, 1) := by decide +kernel
theorem dX1_rulesOut_0 : decode cX1_rulesOut 0 = .ok (.iconst 0, 1) := by decide +kernel
theorem dX1_rulesOut_1 : decode cX1_rulesOut 1 = .ok (.istore_n 3, 1) := by decide +kernel
theorem dX1_rulesOut_2 : decode cX1_rulesOut 2 = .ok (.iload_n 3, 1) := by decide +kernel
theorem dX1_rulesOut_3 : decode cX1_rulesOut 3 = .ok (.aload_n 1, 1) := by decide +kernel
theorem dX1_rulesOut_4 : decode cX1_rulesOut 4 = .ok (.getfield 40, 3) := by decide +kernel
theorem dX1_rulesOut_7 : decode cX1_rulesOut 7 = .ok (.if_icmp .ge 38, 3) := by decide +kernel
theorem dX1_rulesOut_10 : decode cX1_rulesOut 10 = .ok (.aload_n 1, 1) := by decide +kernel
theorem dX1_rulesOut_11 : decode cX1_rulesOut 11 = .ok (.iload_n 2, 1) := by decide +kernel
theorem dX1_rulesOut_12 : decode cX1_rulesOut 12 = .ok (.iload_n 3, 1) := by decide +kernel
theorem dX1_rulesOut_13 : decode cX1_rulesOut 13 = .ok (.iconst 0, 1) := by decide +kernel
theorem dX1_rulesOut_14 : decode cX1_rulesOut 14 = .ok (.invokevirtual 43, 3) := by decide +kernel
theorem dX1_rulesOut_17 : decode cX1_rulesOut 17 = .ok (.ifCond .eq 22, 3) := by decide +kernel
theorem dX1_rulesOut_20 : decode cX1_rulesOut 20 = .ok (.aload_n 0, 1) := by decide +kernel
theorem dX1_rulesOut_21 : decode cX1_rulesOut 21 = .ok (.aload_n 1, 1) := by decide +kernel
theorem dX1_rulesOut_22 : decode cX1_rulesOut 22 = .ok (.iload_n 3, 1) := by decide +kernel
theorem dX1_rulesOut_23 : decode cX1_rulesOut 23 = .ok (.invokevirtual 47, 3) := by decide +kernel
theorem dX1_rulesOut_26 : decode cX1_rulesOut 26 = .ok (.aload_n 1, 1) := by decide +kernel
theorem dX1_rulesOut_27 : decode cX1_rulesOut 27 = .ok (.iload_n 3, 1) := by decide +kernel
theorem dX1_rulesOut_28 : decode cX1_rulesOut 28 = .ok (.invokevirtual 51, 3) := by decide +kernel
theorem dX1_rulesOut_31 : decode cX1_rulesOut 31 = .ok (.invokevirtual 65, 3) := by decide +kernel
theorem dX1_rulesOut_34 : decode cX1_rulesOut 34 = .ok (.ifCond .eq 5, 3) := by decide +kernel
theorem dX1_rulesOut_37 : decode cX1_rulesOut 37 = .ok (.iconst 1, 1) := by decide +kernel
theorem dX1_rulesOut_38 : decode cX1_rulesOut 38 = .ok (.ireturn, 1) := by decide +kernel
theorem dX1_rulesOut_39 : decode cX1_rulesOut 39 = .ok (.iinc 3 1, 3) := by decide +kernel
theorem dX1_rulesOut_42 : decode cX1_rulesOut 42 = .ok (.goto (-40), 3) := by decide +kernel
theorem dX1_rulesOut_45 : decode cX1_rulesOut 45 = .ok (.iconst 0, 1) := by decide +kernel
theorem dX1_rulesOut_46 : decode cX1_rulesOut 46 = .ok (.ireturn, 1) := by decide +kernel
theorem dX1_merge_0 : decode cX1_merge 0 = .ok (.aload_n 0, 1) := by decide +kernel
theorem dX1_merge_1 : decode cX1_merge 1 = .ok (.iload_n 1, 1) := by decide +kernel
theorem dX1_merge_2 : decode cX1_merge 2 = .ok (.invokevirtual 62, 3) := by decide +kernel
theorem dX1_merge_5 : decode cX1_merge 5 = .ok (.istore_n 3, 1) := by decide +kernel
theorem dX1_merge_6 : decode cX1_merge 6 = .ok (.aload_n 0, 1) := by decide +kernel
theorem dX1_merge_7 : decode cX1_merge 7 = .ok (.iload_n 2, 1) := by decide +kernel
theorem dX1_merge_8 : decode cX1_merge 8 = .ok (.invokevirtual 62, 3) := by decide +kernel
theorem dX1_merge_11 : decode cX1_merge 11 = .ok (.istore 4, 2) := by decide +kernel
theorem dX1_merge_13 : decode cX1_merge 13 = .ok (.iload_n 3, 1) := by decide +kernel
theorem dX1_merge_14 : decode cX1_merge 14 = .ok (.iload 4, 2) := by decide +kernel
theorem dX1_merge_16 : decode cX1_merge 16 = .ok (.if_icmp .eq 18, 3) := by decide +kernel
theorem dX1_merge_19 : decode cX1_merge 19 = .ok (.iload_n 3, 1) := by decide +kernel
theorem dX1_merge_20 : decode cX1_merge 20 = .ok (.iconst (-1), 1) := by decide +kernel
theorem dX1_merge_21 : decode cX1_merge 21 = .ok (.if_icmp .eq 13, 3) := by decide +kernel
theorem dX1_merge_24 : decode cX1_merge 24 = .ok (.iload 4, 2) := by decide +kernel
theorem dX1_merge_26 : decode cX1_merge 26 = .ok (.iconst (-1), 1) := by decide +kernel
theorem dX1_merge_27 : decode cX1_merge 27 = .ok (.if_icmp .eq 7, 3) := by decide +kernel
theorem dX1_merge_30 : decode cX1_merge 30 = .ok (.iconst 1, 1) := by decide +kernel
theorem dX1_merge_31 : decode cX1_merge 31 = .ok (.goto 4, 3) := by decide +kernel
theorem dX1_merge_34 : decode cX1_merge 34 = .ok (.iconst 0, 1) := by decide +kernel
theorem dX1_merge_35 : decode cX1_merge 35 = .ok (.istore 5, 2) := by decide +kernel
theorem dX1_merge_37 : decode cX1_merge 37 = .ok (.iconst 0, 1) := by decide +kernel
theorem dX1_merge_38 : decode cX1_merge 38 = .ok (.istore 6, 2) := by decide +kernel
theorem dX1_merge_40 : decode cX1_merge 40 = .ok (.iload 6, 2) := by decide +kernel
theorem dX1_merge_42 : decode cX1_merge 42 = .ok (.aload_n 0, 1) := by decide +kernel
theorem dX1_merge_43 : decode cX1_merge 43 = .ok (.getfield 39, 3) := by decide +kernel
theorem dX1_merge_46 : decode cX1_merge 46 = .ok (.if_icmp .ge 41, 3) := by decide +kernel
theorem dX1_merge_49 : decode cX1_merge 49 = .ok (.iload 6, 2) := by decide +kernel
theorem dX1_merge_51 : decode cX1_merge 51 = .ok (.bipush 116, 2) := by decide +kernel
theorem dX1_merge_53 : decode cX1_merge 53 = .ok (.if_icmp .ge 34, 3) := by decide +kernel
theorem dX1_merge_56 : decode cX1_merge 56 = .ok (.iload 5, 2) := by decide +kernel
theorem dX1_merge_58 : decode cX1_merge 58 = .ok (.ifCond .eq 29, 3) := by decide +kernel
theorem dX1_merge_61 : decode cX1_merge 61 = .ok (.aload_n 0, 1) := by decide +kernel
theorem dX1_merge_62 : decode cX1_merge 62 = .ok (.getfield 9, 3) := by decide +kernel
theorem dX1_merge_65 : decode cX1_merge 65 = .ok (.iload 6, 2) := by decide +kernel
theorem dX1_merge_67 : decode cX1_merge 67 = .ok (.iaload, 1) := by decide +kernel
theorem dX1_merge_68 : decode cX1_merge 68 = .ok (.iload 4, 2) := by decide +kernel
theorem dX1_merge_70 : decode cX1_merge 70 = .ok (.if_icmp .ne 11, 3) := by decide +kernel
theorem dX1_merge_73 : decode cX1_merge 73 = .ok (.aload_n 0, 1) := by decide +kernel
theorem dX1_merge_74 : decode cX1_merge 74 = .ok (.getfield 9, 3) := by decide +kernel
theorem dX1_merge_77 : decode cX1_merge 77 = .ok (.iload 6, 2) := by decide +kernel
theorem dX1_merge_79 : decode cX1_merge 79 = .ok (.iload_n 3, 1) := by decide +kernel
theorem dX1_merge_80 : decode cX1_merge 80 = .ok (.iastore, 1) := by decide +kernel
theorem dX1_merge_81 : decode cX1_merge 81 = .ok (.iinc 6 1, 3) := by decide +kernel
theorem dX1_merge_84 : decode cX1_merge 84 = .ok (.goto (-44), 3) := by decide +kernel
theorem dX1_merge_87 : decode cX1_merge 87 = .ok (.return_, 1) := by decide +kernel
theorem dX1_spread_0 : decode cX1_spread 0 = .ok (.iconst 1, 1) := by decide +kernel
theorem dX1_spread_1 : decode cX1_spread 1 = .ok (.istore_n 2, 1) := by decide +kernel
theorem dX1_spread_2 : decode cX1_spread 2 = .ok (.iconst 0, 1) := by decide +kernel
theorem dX1_spread_3 : decode cX1_spread 3 = .ok (.istore_n 3, 1) := by decide +kernel
theorem dX1_spread_4 : decode cX1_spread 4 = .ok (.iload_n 3, 1) := by decide +kernel
theorem dX1_spread_5 : decode cX1_spread 5 = .ok (.bipush 116, 2) := by decide +kernel
theorem dX1_spread_7 : decode cX1_spread 7 = .ok (.if_icmp .gt 19, 3) := by decide +kernel
theorem dX1_spread_10 : decode cX1_spread 10 = .ok (.iload_n 2, 1) := by decide +kernel
theorem dX1_spread_11 : decode cX1_spread 11 = .ok (.ifCond .eq 15, 3) := by decide +kernel
theorem dX1_spread_14 : decode cX1_spread 14 = .ok (.aload_n 0, 1) := by decide +kernel
theorem dX1_spread_15 : decode cX1_spread 15 = .ok (.aload_n 1, 1) := by decide +kernel
theorem dX1_spread_16 : decode cX1_spread 16 = .ok (.invokevirtual 69, 3) := by decide +kernel
theorem dX1_spread_19 : decode cX1_spread 19 = .ok (.istore_n 2, 1) := by decide +kernel
theorem dX1_spread_20 : decode cX1_spread 20 = .ok (.iinc 3 1, 3) := by decide +kernel
theorem dX1_spread_23 : decode cX1_spread 23 = .ok (.goto (-19), 3) := by decide +kernel
theorem dX1_spread_26 : decode cX1_spread 26 = .ok (.return_, 1) := by decide +kernel
theorem dX1_spreadOnce_0 : decode cX1_spreadOnce 0 = .ok (.iconst 0, 1) := by decide +kernel
theorem dX1_spreadOnce_1 : decode cX1_spreadOnce 1 = .ok (.istore_n 2, 1) := by decide +kernel
theorem dX1_spreadOnce_2 : decode cX1_spreadOnce 2 = .ok (.aload_n 0, 1) := by decide +kernel
theorem dX1_spreadOnce_3 : decode cX1_spreadOnce 3 = .ok (.getfield 15, 3) := by decide +kernel
theorem dX1_spreadOnce_6 : decode cX1_spreadOnce 6 = .ok (.iconst (-1), 1) := by decide +kernel
theorem dX1_spreadOnce_7 : decode cX1_spreadOnce 7 = .ok (.invokestatic 73, 3) := by decide +kernel
theorem dX1_spreadOnce_10 : decode cX1_spreadOnce 10 = .ok (.iconst 4, 1) := by decide +kernel
theorem dX1_spreadOnce_11 : decode cX1_spreadOnce 11 = .ok (.istore_n 3, 1) := by decide +kernel
theorem dX1_spreadOnce_12 : decode cX1_spreadOnce 12 = .ok (.iload_n 3, 1) := by decide +kernel
theorem dX1_spreadOnce_13 : decode cX1_spreadOnce 13 = .ok (.aload_n 0, 1) := by decide +kernel
theorem dX1_spreadOnce_14 : decode cX1_spreadOnce 14 = .ok (.getfield 39, 3) := by decide +kernel
theorem dX1_spreadOnce_17 : decode cX1_spreadOnce 17 = .ok (.if_icmp .ge 110, 3) := by decide +kernel
theorem dX1_spreadOnce_20 : decode cX1_spreadOnce 20 = .ok (.iload_n 3, 1) := by decide +kernel
theorem dX1_spreadOnce_21 : decode cX1_spreadOnce 21 = .ok (.bipush 116, 2) := by decide +kernel
theorem dX1_spreadOnce_23 : decode cX1_spreadOnce 23 = .ok (.if_icmp .ge 104, 3) := by decide +kernel
theorem dX1_spreadOnce_26 : decode cX1_spreadOnce 26 = .ok (.aload_n 0, 1) := by decide +kernel
theorem dX1_spreadOnce_27 : decode cX1_spreadOnce 27 = .ok (.aload_n 1, 1) := by decide +kernel
theorem dX1_spreadOnce_28 : decode cX1_spreadOnce 28 = .ok (.iload_n 3, 1) := by decide +kernel
theorem dX1_spreadOnce_29 : decode cX1_spreadOnce 29 = .ok (.invokevirtual 79, 3) := by decide +kernel
theorem dX1_spreadOnce_32 : decode cX1_spreadOnce 32 = .ok (.invokevirtual 62, 3) := by decide +kernel
theorem dX1_spreadOnce_35 : decode cX1_spreadOnce 35 = .ok (.istore 4, 2) := by decide +kernel
theorem dX1_spreadOnce_37 : decode cX1_spreadOnce 37 = .ok (.iload 4, 2) := by decide +kernel
theorem dX1_spreadOnce_39 : decode cX1_spreadOnce 39 = .ok (.ifCond .lt 82, 3) := by decide +kernel
theorem dX1_spreadOnce_42 : decode cX1_spreadOnce 42 = .ok (.iload 4, 2) := by decide +kernel
theorem dX1_spreadOnce_44 : decode cX1_spreadOnce 44 = .ok (.bipush 116, 2) := by decide +kernel
theorem dX1_spreadOnce_46 : decode cX1_spreadOnce 46 = .ok (.if_icmp .lt 6, 3) := by decide +kernel
theorem dX1_spreadOnce_49 : decode cX1_spreadOnce 49 = .ok (.goto 72, 3) := by decide +kernel
theorem dX1_spreadOnce_52 : decode cX1_spreadOnce 52 = .ok (.aload_n 0, 1) := by decide +kernel
theorem dX1_spreadOnce_53 : decode cX1_spreadOnce 53 = .ok (.aload_n 1, 1) := by decide +kernel
theorem dX1_spreadOnce_54 : decode cX1_spreadOnce 54 = .ok (.iload_n 3, 1) := by decide +kernel
theorem dX1_spreadOnce_55 : decode cX1_spreadOnce 55 = .ok (.aload_n 0, 1) := by decide +kernel
theorem dX1_spreadOnce_56 : decode cX1_spreadOnce 56 = .ok (.getfield 15, 3) := by decide +kernel
theorem dX1_spreadOnce_59 : decode cX1_spreadOnce 59 = .ok (.iload 4, 2) := by decide +kernel
theorem dX1_spreadOnce_61 : decode cX1_spreadOnce 61 = .ok (.iaload, 1) := by decide +kernel
theorem dX1_spreadOnce_62 : decode cX1_spreadOnce 62 = .ok (.invokevirtual 82, 3) := by decide +kernel
theorem dX1_spreadOnce_65 : decode cX1_spreadOnce 65 = .ok (.istore 5, 2) := by decide +kernel
theorem dX1_spreadOnce_67 : decode cX1_spreadOnce 67 = .ok (.iload 5, 2) := by decide +kernel
theorem dX1_spreadOnce_69 : decode cX1_spreadOnce 69 = .ok (.iconst (-1), 1) := by decide +kernel
theorem dX1_spreadOnce_70 : decode cX1_spreadOnce 70 = .ok (.if_icmp .ne 27, 3) := by decide +kernel
theorem dX1_spreadOnce_73 : decode cX1_spreadOnce 73 = .ok (.aload_n 0, 1) := by decide +kernel
theorem dX1_spreadOnce_74 : decode cX1_spreadOnce 74 = .ok (.getfield 18, 3) := by decide +kernel
theorem dX1_spreadOnce_77 : decode cX1_spreadOnce 77 = .ok (.iload_n 3, 1) := by decide +kernel
theorem dX1_spreadOnce_78 : decode cX1_spreadOnce 78 = .ok (.aload_n 0, 1) := by decide +kernel
theorem dX1_spreadOnce_79 : decode cX1_spreadOnce 79 = .ok (.getfield 15, 3) := by decide +kernel
theorem dX1_spreadOnce_82 : decode cX1_spreadOnce 82 = .ok (.iload 4, 2) := by decide +kernel
theorem dX1_spreadOnce_84 : decode cX1_spreadOnce 84 = .ok (.iaload, 1) := by decide +kernel
theorem dX1_spreadOnce_85 : decode cX1_spreadOnce 85 = .ok (.iastore, 1) := by decide +kernel
theorem dX1_spreadOnce_86 : decode cX1_spreadOnce 86 = .ok (.aload_n 0, 1) := by decide +kernel
theorem dX1_spreadOnce_87 : decode cX1_spreadOnce 87 = .ok (.getfield 15, 3) := by decide +kernel
theorem dX1_spreadOnce_90 : decode cX1_spreadOnce 90 = .ok (.iload 4, 2) := by decide +kernel
theorem dX1_spreadOnce_92 : decode cX1_spreadOnce 92 = .ok (.iload_n 3, 1) := by decide +kernel
theorem dX1_spreadOnce_93 : decode cX1_spreadOnce 93 = .ok (.iastore, 1) := by decide +kernel
theorem dX1_spreadOnce_94 : decode cX1_spreadOnce 94 = .ok (.goto 27, 3) := by decide +kernel
theorem dX1_spreadOnce_97 : decode cX1_spreadOnce 97 = .ok (.aload_n 0, 1) := by decide +kernel
theorem dX1_spreadOnce_98 : decode cX1_spreadOnce 98 = .ok (.iload 5, 2) := by decide +kernel
theorem dX1_spreadOnce_100 : decode cX1_spreadOnce 100 = .ok (.invokevirtual 62, 3) := by decide +kernel
theorem dX1_spreadOnce_103 : decode cX1_spreadOnce 103 = .ok (.aload_n 0, 1) := by decide +kernel
theorem dX1_spreadOnce_104 : decode cX1_spreadOnce 104 = .ok (.getfield 9, 3) := by decide +kernel
theorem dX1_spreadOnce_107 : decode cX1_spreadOnce 107 = .ok (.iload_n 3, 1) := by decide +kernel
theorem dX1_spreadOnce_108 : decode cX1_spreadOnce 108 = .ok (.iaload, 1) := by decide +kernel
theorem dX1_spreadOnce_109 : decode cX1_spreadOnce 109 = .ok (.if_icmp .eq 12, 3) := by decide +kernel
theorem dX1_spreadOnce_112 : decode cX1_spreadOnce 112 = .ok (.aload_n 0, 1) := by decide +kernel
theorem dX1_spreadOnce_113 : decode cX1_spreadOnce 113 = .ok (.iload 5, 2) := by decide +kernel
theorem dX1_spreadOnce_115 : decode cX1_spreadOnce 115 = .ok (.iload_n 3, 1) := by decide +kernel
theorem dX1_spreadOnce_116 : decode cX1_spreadOnce 116 = .ok (.invokevirtual 54, 3) := by decide +kernel
theorem dX1_spreadOnce_119 : decode cX1_spreadOnce 119 = .ok (.iconst 1, 1) := by decide +kernel
theorem dX1_spreadOnce_120 : decode cX1_spreadOnce 120 = .ok (.istore_n 2, 1) := by decide +kernel
theorem dX1_spreadOnce_121 : decode cX1_spreadOnce 121 = .ok (.iinc 3 1, 3) := by decide +kernel
theorem dX1_spreadOnce_124 : decode cX1_spreadOnce 124 = .ok (.goto (-112), 3) := by decide +kernel
theorem dX1_spreadOnce_127 : decode cX1_spreadOnce 127 = .ok (.iload_n 2, 1) := by decide +kernel
theorem dX1_spreadOnce_128 : decode cX1_spreadOnce 128 = .ok (.ireturn, 1) := by decide +kernel
theorem dX1_findMatch_0 : decode cX1_findMatch 0 = .ok (.aload_n 1, 1) := by decide +kernel
theorem dX1_findMatch_1 : decode cX1_findMatch 1 = .ok (.iload_n 2, 1) := by decide +kernel
theorem dX1_findMatch_2 : decode cX1_findMatch 2 = .ok (.invokevirtual 86, 3) := by decide +kernel
theorem dX1_findMatch_5 : decode cX1_findMatch 5 = .ok (.istore 4, 2) := by decide +kernel
theorem dX1_findMatch_7 : decode cX1_findMatch 7 = .ok (.aload_n 0, 1) := by decide +kernel
theorem dX1_findMatch_8 : decode cX1_findMatch 8 = .ok (.aload_n 1, 1) := by decide +kernel
theorem dX1_findMatch_9 : decode cX1_findMatch 9 = .ok (.iload_n 2, 1) := by decide +kernel
theorem dX1_findMatch_10 : decode cX1_findMatch 10 = .ok (.invokevirtual 89, 3) := by decide +kernel
theorem dX1_findMatch_13 : decode cX1_findMatch 13 = .ok (.invokevirtual 62, 3) := by decide +kernel
theorem dX1_findMatch_16 : decode cX1_findMatch 16 = .ok (.istore 5, 2) := by decide +kernel
theorem dX1_findMatch_18 : decode cX1_findMatch 18 = .ok (.iload_n 3, 1) := by decide +kernel
theorem dX1_findMatch_19 : decode cX1_findMatch 19 = .ok (.istore 6, 2) := by decide +kernel
theorem dX1_findMatch_21 : decode cX1_findMatch 21 = .ok (.iconst 0, 1) := by decide +kernel
theorem dX1_findMatch_22 : decode cX1_findMatch 22 = .ok (.istore 7, 2) := by decide +kernel
theorem dX1_findMatch_24 : decode cX1_findMatch 24 = .ok (.iload 7, 2) := by decide +kernel
theorem dX1_findMatch_26 : decode cX1_findMatch 26 = .ok (.aload_n 0, 1) := by decide +kernel
theorem dX1_findMatch_27 : decode cX1_findMatch 27 = .ok (.getfield 39, 3) := by decide +kernel
theorem dX1_findMatch_30 : decode cX1_findMatch 30 = .ok (.if_icmp .ge 59, 3) := by decide +kernel
theorem dX1_findMatch_33 : decode cX1_findMatch 33 = .ok (.iload 6, 2) := by decide +kernel
theorem dX1_findMatch_35 : decode cX1_findMatch 35 = .ok (.ifCond .lt 54, 3) := by decide +kernel
theorem dX1_findMatch_38 : decode cX1_findMatch 38 = .ok (.iload 6, 2) := by decide +kernel
theorem dX1_findMatch_40 : decode cX1_findMatch 40 = .ok (.bipush 116, 2) := by decide +kernel
theorem dX1_findMatch_42 : decode cX1_findMatch 42 = .ok (.if_icmp .ge 47, 3) := by decide +kernel
theorem dX1_findMatch_45 : decode cX1_findMatch 45 = .ok (.aload_n 1, 1) := by decide +kernel
theorem dX1_findMatch_46 : decode cX1_findMatch 46 = .ok (.iload 6, 2) := by decide +kernel
theorem dX1_findMatch_48 : decode cX1_findMatch 48 = .ok (.invokevirtual 86, 3) := by decide +kernel
theorem dX1_findMatch_51 : decode cX1_findMatch 51 = .ok (.iload 4, 2) := by decide +kernel
theorem dX1_findMatch_53 : decode cX1_findMatch 53 = .ok (.if_icmp .ne 21, 3) := by decide +kernel
theorem dX1_findMatch_56 : decode cX1_findMatch 56 = .ok (.aload_n 0, 1) := by decide +kernel
theorem dX1_findMatch_57 : decode cX1_findMatch 57 = .ok (.aload_n 1, 1) := by decide +kernel
theorem dX1_findMatch_58 : decode cX1_findMatch 58 = .ok (.iload 6, 2) := by decide +kernel
theorem dX1_findMatch_60 : decode cX1_findMatch 60 = .ok (.invokevirtual 89, 3) := by decide +kernel
theorem dX1_findMatch_63 : decode cX1_findMatch 63 = .ok (.invokevirtual 62, 3) := by decide +kernel
theorem dX1_findMatch_66 : decode cX1_findMatch 66 = .ok (.iload 5, 2) := by decide +kernel
theorem dX1_findMatch_68 : decode cX1_findMatch 68 = .ok (.if_icmp .ne 6, 3) := by decide +kernel
theorem dX1_findMatch_71 : decode cX1_findMatch 71 = .ok (.iload 6, 2) := by decide +kernel
theorem dX1_findMatch_73 : decode cX1_findMatch 73 = .ok (.ireturn, 1) := by decide +kernel
theorem dX1_findMatch_74 : decode cX1_findMatch 74 = .ok (.aload_n 0, 1) := by decide +kernel
theorem dX1_findMatch_75 : decode cX1_findMatch 75 = .ok (.getfield 18, 3) := by decide +kernel
theorem dX1_findMatch_78 : decode cX1_findMatch 78 = .ok (.iload 6, 2) := by decide +kernel
theorem dX1_findMatch_80 : decode cX1_findMatch 80 = .ok (.iaload, 1) := by decide +kernel
theorem dX1_findMatch_81 : decode cX1_findMatch 81 = .ok (.istore 6, 2) := by decide +kernel
theorem dX1_findMatch_83 : decode cX1_findMatch 83 = .ok (.iinc 7 1, 3) := by decide +kernel
theorem dX1_findMatch_86 : decode cX1_findMatch 86 = .ok (.goto (-62), 3) := by decide +kernel
theorem dX1_findMatch_89 : decode cX1_findMatch 89 = .ok (.iconst (-1), 1) := by decide +kernel
theorem dX1_findMatch_90 : decode cX1_findMatch 90 = .ok (.ireturn, 1) := by decide +kernel
theorem dX1_rootOf_0 : decode cX1_rootOf 0 = .ok (.iload_n 1, 1) := by decide +kernel
theorem dX1_rootOf_1 : decode cX1_rootOf 1 = .ok (.ifCond .lt 26, 3) := by decide +kernel
theorem dX1_rootOf_4 : decode cX1_rootOf 4 = .ok (.iload_n 1, 1) := by decide +kernel
theorem dX1_rootOf_5 : decode cX1_rootOf 5 = .ok (.aload_n 0, 1) := by decide +kernel
theorem dX1_rootOf_6 : decode cX1_rootOf 6 = .ok (.getfield 39, 3) := by decide +kernel
theorem dX1_rootOf_9 : decode cX1_rootOf 9 = .ok (.if_icmp .ge 18, 3) := by decide +kernel
theorem dX1_rootOf_12 : decode cX1_rootOf 12 = .ok (.iload_n 1, 1) := by decide +kernel
theorem dX1_rootOf_13 : decode cX1_rootOf 13 = .ok (.bipush 116, 2) := by decide +kernel
theorem dX1_rootOf_15 : decode cX1_rootOf 15 = .ok (.if_icmp .ge 12, 3) := by decide +kernel
theorem dX1_rootOf_18 : decode cX1_rootOf 18 = .ok (.aload_n 0, 1) := by decide +kernel
theorem dX1_rootOf_19 : decode cX1_rootOf 19 = .ok (.getfield 9, 3) := by decide +kernel
theorem dX1_rootOf_22 : decode cX1_rootOf 22 = .ok (.iload_n 1, 1) := by decide +kernel
theorem dX1_rootOf_23 : decode cX1_rootOf 23 = .ok (.iaload, 1) := by decide +kernel
theorem dX1_rootOf_24 : decode cX1_rootOf 24 = .ok (.goto 4, 3) := by decide +kernel
theorem dX1_rootOf_27 : decode cX1_rootOf 27 = .ok (.iconst (-1), 1) := by decide +kernel
theorem dX1_rootOf_28 : decode cX1_rootOf 28 = .ok (.ireturn, 1) := by decide +kernel
theorem dX2_init_0 : decode cX2_init 0 = .ok (.aload_n 0, 1) := by decide +kernel
theorem dX2_init_1 : decode cX2_init 1 = .ok (.invokespecial 3, 3) := by decide +kernel
theorem dX2_init_4 : decode cX2_init 4 = .ok (.aload_n 0, 1) := by decide +kernel
theorem dX2_init_5 : decode cX2_init 5 = .ok (.iconst 4, 1) := by decide +kernel
theorem dX2_init_6 : decode cX2_init 6 = .ok (.newarray .int, 2) := by decide +kernel
theorem dX2_init_8 : decode cX2_init 8 = .ok (.putfield 9, 3) := by decide +kernel
theorem dX2_init_11 : decode cX2_init 11 = .ok (.aload_n 0, 1) := by decide +kernel
theorem dX2_init_12 : decode cX2_init 12 = .ok (.iconst 4, 1) := by decide +kernel
theorem dX2_init_13 : decode cX2_init 13 = .ok (.newarray .int, 2) := by decide +kernel
theorem dX2_init_15 : decode cX2_init 15 = .ok (.putfield 15, 3) := by decide +kernel
theorem dX2_init_18 : decode cX2_init 18 = .ok (.aload_n 0, 1) := by decide +kernel
theorem dX2_init_19 : decode cX2_init 19 = .ok (.iconst 4, 1) := by decide +kernel
theorem dX2_init_20 : decode cX2_init 20 = .ok (.newarray .int, 2) := by decide +kernel
theorem dX2_init_22 : decode cX2_init 22 = .ok (.putfield 18, 3) := by decide +kernel
theorem dX2_init_25 : decode cX2_init 25 = .ok (.aload_n 0, 1) := by decide +kernel
theorem dX2_init_26 : decode cX2_init 26 = .ok (.bipush 6, 2) := by decide +kernel
theorem dX2_init_28 : decode cX2_init 28 = .ok (.newarray .int, 2) := by decide +kernel
theorem dX2_init_30 : decode cX2_init 30 = .ok (.putfield 21, 3) := by decide +kernel
theorem dX2_init_33 : decode cX2_init 33 = .ok (.aload_n 0, 1) := by decide +kernel
theorem dX2_init_34 : decode cX2_init 34 = .ok (.bipush 6, 2) := by decide +kernel
theorem dX2_init_36 : decode cX2_init 36 = .ok (.newarray .int, 2) := by decide +kernel
theorem dX2_init_38 : decode cX2_init 38 = .ok (.putfield 24, 3) := by decide +kernel
theorem dX2_init_41 : decode cX2_init 41 = .ok (.aload_n 0, 1) := by decide +kernel
theorem dX2_init_42 : decode cX2_init 42 = .ok (.bipush 6, 2) := by decide +kernel
theorem dX2_init_44 : decode cX2_init 44 = .ok (.newarray .int, 2) := by decide +kernel
theorem dX2_init_46 : decode cX2_init 46 = .ok (.putfield 27, 3) := by decide +kernel
theorem dX2_init_49 : decode cX2_init 49 = .ok (.return_, 1) := by decide +kernel
theorem dX2_goPlain_0 : decode cX2_goPlain 0 = .ok (.iconst 0, 1) := by decide +kernel
theorem dX2_goPlain_1 : decode cX2_goPlain 1 = .ok (.istore_n 3, 1) := by decide +kernel
theorem dX2_goPlain_2 : decode cX2_goPlain 2 = .ok (.iload_n 3, 1) := by decide +kernel
theorem dX2_goPlain_3 : decode cX2_goPlain 3 = .ok (.iconst 4, 1) := by decide +kernel
theorem dX2_goPlain_4 : decode cX2_goPlain 4 = .ok (.if_icmp .ge 16, 3) := by decide +kernel
theorem dX2_goPlain_7 : decode cX2_goPlain 7 = .ok (.aload_n 0, 1) := by decide +kernel
theorem dX2_goPlain_8 : decode cX2_goPlain 8 = .ok (.getfield 9, 3) := by decide +kernel
theorem dX2_goPlain_11 : decode cX2_goPlain 11 = .ok (.iload_n 3, 1) := by decide +kernel
theorem dX2_goPlain_12 : decode cX2_goPlain 12 = .ok (.iload_n 3, 1) := by decide +kernel
theorem dX2_goPlain_13 : decode cX2_goPlain 13 = .ok (.iastore, 1) := by decide +kernel
theorem dX2_goPlain_14 : decode cX2_goPlain 14 = .ok (.iinc 3 1, 3) := by decide +kernel
theorem dX2_goPlain_17 : decode cX2_goPlain 17 = .ok (.goto (-15), 3) := by decide +kernel
theorem dX2_goPlain_20 : decode cX2_goPlain 20 = .ok (.iconst 0, 1) := by decide +kernel
theorem dX2_goPlain_21 : decode cX2_goPlain 21 = .ok (.istore_n 3, 1) := by decide +kernel
theorem dX2_goPlain_22 : decode cX2_goPlain 22 = .ok (.iload_n 3, 1) := by decide +kernel
theorem dX2_goPlain_23 : decode cX2_goPlain 23 = .ok (.aload_n 1, 1) := by decide +kernel
theorem dX2_goPlain_24 : decode cX2_goPlain 24 = .ok (.getfield 30, 3) := by decide +kernel
theorem dX2_goPlain_27 : decode cX2_goPlain 27 = .ok (.if_icmp .ge 82, 3) := by decide +kernel
theorem dX2_goPlain_30 : decode cX2_goPlain 30 = .ok (.iload_n 3, 1) := by decide +kernel
theorem dX2_goPlain_31 : decode cX2_goPlain 31 = .ok (.bipush 6, 2) := by decide +kernel
theorem dX2_goPlain_33 : decode cX2_goPlain 33 = .ok (.if_icmp .ge 76, 3) := by decide +kernel
theorem dX2_goPlain_36 : decode cX2_goPlain 36 = .ok (.aload_n 1, 1) := by decide +kernel
theorem dX2_goPlain_37 : decode cX2_goPlain 37 = .ok (.getfield 36, 3) := by decide +kernel
theorem dX2_goPlain_40 : decode cX2_goPlain 40 = .ok (.iload_n 3, 1) := by decide +kernel
theorem dX2_goPlain_41 : decode cX2_goPlain 41 = .ok (.iaload, 1) := by decide +kernel
theorem dX2_goPlain_42 : decode cX2_goPlain 42 = .ok (.istore 4, 2) := by decide +kernel
theorem dX2_goPlain_44 : decode cX2_goPlain 44 = .ok (.iload 4, 2) := by decide +kernel
theorem dX2_goPlain_46 : decode cX2_goPlain 46 = .ok (.invokestatic 39, 3) := by decide +kernel
theorem dX2_goPlain_49 : decode cX2_goPlain 49 = .ok (.istore 5, 2) := by decide +kernel
theorem dX2_goPlain_51 : decode cX2_goPlain 51 = .ok (.iload 5, 2) := by decide +kernel
theorem dX2_goPlain_53 : decode cX2_goPlain 53 = .ok (.ifCond .eq 50, 3) := by decide +kernel
theorem dX2_goPlain_56 : decode cX2_goPlain 56 = .ok (.aload_n 0, 1) := by decide +kernel
theorem dX2_goPlain_57 : decode cX2_goPlain 57 = .ok (.getfield 9, 3) := by decide +kernel
theorem dX2_goPlain_60 : decode cX2_goPlain 60 = .ok (.iload 4, 2) := by decide +kernel
theorem dX2_goPlain_62 : decode cX2_goPlain 62 = .ok (.invokestatic 43, 3) := by decide +kernel
theorem dX2_goPlain_65 : decode cX2_goPlain 65 = .ok (.iaload, 1) := by decide +kernel
theorem dX2_goPlain_66 : decode cX2_goPlain 66 = .ok (.istore 6, 2) := by decide +kernel
theorem dX2_goPlain_68 : decode cX2_goPlain 68 = .ok (.aload_n 0, 1) := by decide +kernel
theorem dX2_goPlain_69 : decode cX2_goPlain 69 = .ok (.getfield 9, 3) := by decide +kernel
theorem dX2_goPlain_72 : decode cX2_goPlain 72 = .ok (.iload 4, 2) := by decide +kernel
theorem dX2_goPlain_74 : decode cX2_goPlain 74 = .ok (.invokestatic 46, 3) := by decide +kernel
theorem dX2_goPlain_77 : decode cX2_goPlain 77 = .ok (.iaload, 1) := by decide +kernel
theorem dX2_goPlain_78 : decode cX2_goPlain 78 = .ok (.istore 7, 2) := by decide +kernel
theorem dX2_goPlain_80 : decode cX2_goPlain 80 = .ok (.aload_n 0, 1) := by decide +kernel
theorem dX2_goPlain_81 : decode cX2_goPlain 81 = .ok (.getfield 9, 3) := by decide +kernel
theorem dX2_goPlain_84 : decode cX2_goPlain 84 = .ok (.iload 4, 2) := by decide +kernel
theorem dX2_goPlain_86 : decode cX2_goPlain 86 = .ok (.invokestatic 49, 3) := by decide +kernel
theorem dX2_goPlain_89 : decode cX2_goPlain 89 = .ok (.aload_n 2, 1) := by decide +kernel
theorem dX2_goPlain_90 : decode cX2_goPlain 90 = .ok (.iload 5, 2) := by decide +kernel
theorem dX2_goPlain_92 : decode cX2_goPlain 92 = .ok (.invokestatic 52, 3) := by decide +kernel
theorem dX2_goPlain_95 : decode cX2_goPlain 95 = .ok (.iload 6, 2) := by decide +kernel
theorem dX2_goPlain_97 : decode cX2_goPlain 97 = .ok (.iload 7, 2) := by decide +kernel
theorem dX2_goPlain_99 : decode cX2_goPlain 99 = .ok (.invokevirtual 55, 3) := by decide +kernel
theorem dX2_goPlain_102 : decode cX2_goPlain 102 = .ok (.iastore, 1) := by decide +kernel
theorem dX2_goPlain_103 : decode cX2_goPlain 103 = .ok (.iinc 3 1, 3) := by decide +kernel
theorem dX2_goPlain_106 : decode cX2_goPlain 106 = .ok (.goto (-84), 3) := by decide +kernel
theorem dX2_goPlain_109 : decode cX2_goPlain 109 = .ok (.return_, 1) := by decide +kernel
theorem dX2_goPiped_0 : decode cX2_goPiped 0 = .ok (.iconst 0, 1) := by decide +kernel
theorem dX2_goPiped_1 : decode cX2_goPiped 1 = .ok (.istore 4, 2) := by decide +kernel
theorem dX2_goPiped_3 : decode cX2_goPiped 3 = .ok (.iload 4, 2) := by decide +kernel
theorem dX2_goPiped_5 : decode cX2_goPiped 5 = .ok (.iconst 4, 1) := by decide +kernel
theorem dX2_goPiped_6 : decode cX2_goPiped 6 = .ok (.if_icmp .ge 26, 3) := by decide +kernel
theorem dX2_goPiped_9 : decode cX2_goPiped 9 = .ok (.aload_n 0, 1) := by decide +kernel
theorem dX2_goPiped_10 : decode cX2_goPiped 10 = .ok (.getfield 15, 3) := by decide +kernel
theorem dX2_goPiped_13 : decode cX2_goPiped 13 = .ok (.iload 4, 2) := by decide +kernel
theorem dX2_goPiped_15 : decode cX2_goPiped 15 = .ok (.iload 4, 2) := by decide +kernel
theorem dX2_goPiped_17 : decode cX2_goPiped 17 = .ok (.iastore, 1) := by decide +kernel
theorem dX2_goPiped_18 : decode cX2_goPiped 18 = .ok (.aload_n 0, 1) := by decide +kernel
theorem dX2_goPiped_19 : decode cX2_goPiped 19 = .ok (.getfield 18, 3) := by decide +kernel
theorem dX2_goPiped_22 : decode cX2_goPiped 22 = .ok (.iload 4, 2) := by decide +kernel
theorem dX2_goPiped_24 : decode cX2_goPiped 24 = .ok (.iconst (-1), 1) := by decide +kernel
theorem dX2_goPiped_25 : decode cX2_goPiped 25 = .ok (.iastore, 1) := by decide +kernel
theorem dX2_goPiped_26 : decode cX2_goPiped 26 = .ok (.iinc 4 1, 3) := by decide +kernel
theorem dX2_goPiped_29 : decode cX2_goPiped 29 = .ok (.goto (-26), 3) := by decide +kernel
theorem dX2_goPiped_32 : decode cX2_goPiped 32 = .ok (.iconst 0, 1) := by decide +kernel
theorem dX2_goPiped_33 : decode cX2_goPiped 33 = .ok (.istore 4, 2) := by decide +kernel
theorem dX2_goPiped_35 : decode cX2_goPiped 35 = .ok (.iconst 0, 1) := by decide +kernel
theorem dX2_goPiped_36 : decode cX2_goPiped 36 = .ok (.istore 5, 2) := by decide +kernel
theorem dX2_goPiped_38 : decode cX2_goPiped 38 = .ok (.iload 5, 2) := by decide +kernel
theorem dX2_goPiped_40 : decode cX2_goPiped 40 = .ok (.aload_n 1, 1) := by decide +kernel
theorem dX2_goPiped_41 : decode cX2_goPiped 41 = .ok (.getfield 30, 3) := by decide +kernel
theorem dX2_goPiped_44 : decode cX2_goPiped 44 = .ok (.if_icmp .ge 172, 3) := by decide +kernel
theorem dX2_goPiped_47 : decode cX2_goPiped 47 = .ok (.iload 5, 2) := by decide +kernel
theorem dX2_goPiped_49 : decode cX2_goPiped 49 = .ok (.bipush 6, 2) := by decide +kernel
theorem dX2_goPiped_51 : decode cX2_goPiped 51 = .ok (.if_icmp .ge 165, 3) := by decide +kernel
theorem dX2_goPiped_54 : decode cX2_goPiped 54 = .ok (.aload_n 1, 1) := by decide +kernel
theorem dX2_goPiped_55 : decode cX2_goPiped 55 = .ok (.getfield 36, 3) := by decide +kernel
theorem dX2_goPiped_58 : decode cX2_goPiped 58 = .ok (.iload 5, 2) := by decide +kernel
theorem dX2_goPiped_60 : decode cX2_goPiped 60 = .ok (.iaload, 1) := by decide +kernel
theorem dX2_goPiped_61 : decode cX2_goPiped 61 = .ok (.istore 6, 2) := by decide +kernel
theorem dX2_goPiped_63 : decode cX2_goPiped 63 = .ok (.iload 6, 2) := by decide +kernel
theorem dX2_goPiped_65 : decode cX2_goPiped 65 = .ok (.invokestatic 39, 3) := by decide +kernel
theorem dX2_goPiped_68 : decode cX2_goPiped 68 = .ok (.istore 7, 2) := by decide +kernel
theorem dX2_goPiped_70 : decode cX2_goPiped 70 = .ok (.aload_n 0, 1) := by decide +kernel
theorem dX2_goPiped_71 : decode cX2_goPiped 71 = .ok (.getfield 21, 3) := by decide +kernel
theorem dX2_goPiped_74 : decode cX2_goPiped 74 = .ok (.iload 5, 2) := by decide +kernel
theorem dX2_goPiped_76 : decode cX2_goPiped 76 = .ok (.aload_n 2, 1) := by decide +kernel
theorem dX2_goPiped_77 : decode cX2_goPiped 77 = .ok (.getfield 61, 3) := by decide +kernel
theorem dX2_goPiped_80 : decode cX2_goPiped 80 = .ok (.iconst 1, 1) := by decide +kernel
theorem dX2_goPiped_81 : decode cX2_goPiped 81 = .ok (.if_icmp .ne 15, 3) := by decide +kernel
theorem dX2_goPiped_84 : decode cX2_goPiped 84 = .ok (.aload_n 0, 1) := by decide +kernel
theorem dX2_goPiped_85 : decode cX2_goPiped 85 = .ok (.iload 4, 2) := by decide +kernel
theorem dX2_goPiped_87 : decode cX2_goPiped 87 = .ok (.iload 6, 2) := by decide +kernel
theorem dX2_goPiped_89 : decode cX2_goPiped 89 = .ok (.aload_n 2, 1) := by decide +kernel
theorem dX2_goPiped_90 : decode cX2_goPiped 90 = .ok (.invokevirtual 66, 3) := by decide +kernel
theorem dX2_goPiped_93 : decode cX2_goPiped 93 = .ok (.goto 5, 3) := by decide +kernel
theorem dX2_goPiped_96 : decode cX2_goPiped 96 = .ok (.iload 4, 2) := by decide +kernel
theorem dX2_goPiped_98 : decode cX2_goPiped 98 = .ok (.iastore, 1) := by decide +kernel
theorem dX2_goPiped_99 : decode cX2_goPiped 99 = .ok (.aload_n 0, 1) := by decide +kernel
theorem dX2_goPiped_100 : decode cX2_goPiped 100 = .ok (.getfield 21, 3) := by decide +kernel
theorem dX2_goPiped_103 : decode cX2_goPiped 103 = .ok (.iload 5, 2) := by decide +kernel
theorem dX2_goPiped_105 : decode cX2_goPiped 105 = .ok (.iaload, 1) := by decide +kernel
theorem dX2_goPiped_106 : decode cX2_goPiped 106 = .ok (.iconst 1, 1) := by decide +kernel
theorem dX2_goPiped_107 : decode cX2_goPiped 107 = .ok (.iadd, 1) := by decide +kernel
theorem dX2_goPiped_108 : decode cX2_goPiped 108 = .ok (.istore 4, 2) := by decide +kernel
theorem dX2_goPiped_110 : decode cX2_goPiped 110 = .ok (.aload_n 0, 1) := by decide +kernel
theorem dX2_goPiped_111 : decode cX2_goPiped 111 = .ok (.getfield 24, 3) := by decide +kernel
theorem dX2_goPiped_114 : decode cX2_goPiped 114 = .ok (.iload 5, 2) := by decide +kernel
theorem dX2_goPiped_116 : decode cX2_goPiped 116 = .ok (.iconst (-1), 1) := by decide +kernel
theorem dX2_goPiped_117 : decode cX2_goPiped 117 = .ok (.iastore, 1) := by decide +kernel
theorem dX2_goPiped_118 : decode cX2_goPiped 118 = .ok (.iload 7, 2) := by decide +kernel
theorem dX2_goPiped_120 : decode cX2_goPiped 120 = .ok (.ifCond .eq 90, 3) := by decide +kernel
theorem dX2_goPiped_123 : decode cX2_goPiped 123 = .ok (.aload_n 0, 1) := by decide +kernel
theorem dX2_goPiped_124 : decode cX2_goPiped 124 = .ok (.iload 5, 2) := by decide +kernel
theorem dX2_goPiped_126 : decode cX2_goPiped 126 = .ok (.iload 6, 2) := by decide +kernel
theorem dX2_goPiped_128 : decode cX2_goPiped 128 = .ok (.invokestatic 43, 3) := by decide +kernel
theorem dX2_goPiped_131 : decode cX2_goPiped 131 = .ok (.aload_n 2, 1) := by decide +kernel
theorem dX2_goPiped_132 : decode cX2_goPiped 132 = .ok (.invokevirtual 70, 3) := by decide +kernel
theorem dX2_goPiped_135 : decode cX2_goPiped 135 = .ok (.istore 8, 2) := by decide +kernel
theorem dX2_goPiped_137 : decode cX2_goPiped 137 = .ok (.aload_n 0, 1) := by decide +kernel
theorem dX2_goPiped_138 : decode cX2_goPiped 138 = .ok (.iload 5, 2) := by decide +kernel
theorem dX2_goPiped_140 : decode cX2_goPiped 140 = .ok (.iload 6, 2) := by decide +kernel
theorem dX2_goPiped_142 : decode cX2_goPiped 142 = .ok (.invokestatic 46, 3) := by decide +kernel
theorem dX2_goPiped_145 : decode cX2_goPiped 145 = .ok (.aload_n 2, 1) := by decide +kernel
theorem dX2_goPiped_146 : decode cX2_goPiped 146 = .ok (.invokevirtual 70, 3) := by decide +kernel
theorem dX2_goPiped_149 : decode cX2_goPiped 149 = .ok (.istore 9, 2) := by decide +kernel
theorem dX2_goPiped_151 : decode cX2_goPiped 151 = .ok (.aload_n 0, 1) := by decide +kernel
theorem dX2_goPiped_152 : decode cX2_goPiped 152 = .ok (.getfield 27, 3) := by decide +kernel
theorem dX2_goPiped_155 : decode cX2_goPiped 155 = .ok (.iload 5, 2) := by decide +kernel
theorem dX2_goPiped_157 : decode cX2_goPiped 157 = .ok (.aload_n 3, 1) := by decide +kernel
theorem dX2_goPiped_158 : decode cX2_goPiped 158 = .ok (.iload 7, 2) := by decide +kernel
theorem dX2_goPiped_160 : decode cX2_goPiped 160 = .ok (.invokestatic 52, 3) := by decide +kernel
theorem dX2_goPiped_163 : decode cX2_goPiped 163 = .ok (.iload 8, 2) := by decide +kernel
theorem dX2_goPiped_165 : decode cX2_goPiped 165 = .ok (.iload 9, 2) := by decide +kernel
theorem dX2_goPiped_167 : decode cX2_goPiped 167 = .ok (.invokevirtual 55, 3) := by decide +kernel
theorem dX2_goPiped_170 : decode cX2_goPiped 170 = .ok (.iastore, 1) := by decide +kernel
theorem dX2_goPiped_171 : decode cX2_goPiped 171 = .ok (.iload 6, 2) := by decide +kernel
theorem dX2_goPiped_173 : decode cX2_goPiped 173 = .ok (.invokestatic 49, 3) := by decide +kernel
theorem dX2_goPiped_176 : decode cX2_goPiped 176 = .ok (.istore 10, 2) := by decide +kernel
theorem dX2_goPiped_178 : decode cX2_goPiped 178 = .ok (.aload_n 0, 1) := by decide +kernel
theorem dX2_goPiped_179 : decode cX2_goPiped 179 = .ok (.getfield 24, 3) := by decide +kernel
theorem dX2_goPiped_182 : decode cX2_goPiped 182 = .ok (.iload 5, 2) := by decide +kernel
theorem dX2_goPiped_184 : decode cX2_goPiped 184 = .ok (.iload 10, 2) := by decide +kernel
theorem dX2_goPiped_186 : decode cX2_goPiped 186 = .ok (.iastore, 1) := by decide +kernel
theorem dX2_goPiped_187 : decode cX2_goPiped 187 = .ok (.aload_n 0, 1) := by decide +kernel
theorem dX2_goPiped_188 : decode cX2_goPiped 188 = .ok (.getfield 18, 3) := by decide +kernel
theorem dX2_goPiped_191 : decode cX2_goPiped 191 = .ok (.iload 10, 2) := by decide +kernel
theorem dX2_goPiped_193 : decode cX2_goPiped 193 = .ok (.iload 5, 2) := by decide +kernel
theorem dX2_goPiped_195 : decode cX2_goPiped 195 = .ok (.iastore, 1) := by decide +kernel
theorem dX2_goPiped_196 : decode cX2_goPiped 196 = .ok (.aload_n 0, 1) := by decide +kernel
theorem dX2_goPiped_197 : decode cX2_goPiped 197 = .ok (.getfield 15, 3) := by decide +kernel
theorem dX2_goPiped_200 : decode cX2_goPiped 200 = .ok (.iload 10, 2) := by decide +kernel
theorem dX2_goPiped_202 : decode cX2_goPiped 202 = .ok (.aload_n 0, 1) := by decide +kernel
theorem dX2_goPiped_203 : decode cX2_goPiped 203 = .ok (.getfield 27, 3) := by decide +kernel
theorem dX2_goPiped_206 : decode cX2_goPiped 206 = .ok (.iload 5, 2) := by decide +kernel
theorem dX2_goPiped_208 : decode cX2_goPiped 208 = .ok (.iaload, 1) := by decide +kernel
theorem dX2_goPiped_209 : decode cX2_goPiped 209 = .ok (.iastore, 1) := by decide +kernel
theorem dX2_goPiped_210 : decode cX2_goPiped 210 = .ok (.iinc 5 1, 3) := by decide +kernel
theorem dX2_goPiped_213 : decode cX2_goPiped 213 = .ok (.goto (-175), 3) := by decide +kernel
theorem dX2_goPiped_216 : decode cX2_goPiped 216 = .ok (.return_, 1) := by decide +kernel
theorem dX2_headOf_0 : decode cX2_headOf 0 = .ok (.iload_n 0, 1) := by decide +kernel
theorem dX2_headOf_1 : decode cX2_headOf 1 = .ok (.iconst 1, 1) := by decide +kernel
theorem dX2_headOf_2 : decode cX2_headOf 2 = .ok (.if_icmp .ne 7, 3) := by decide +kernel
theorem dX2_headOf_5 : decode cX2_headOf 5 = .ok (.iconst 4, 1) := by decide +kernel
theorem dX2_headOf_6 : decode cX2_headOf 6 = .ok (.goto 4, 3) := by decide +kernel
theorem dX2_headOf_9 : decode cX2_headOf 9 = .ok (.iconst 5, 1) := by decide +kernel
theorem dX2_headOf_10 : decode cX2_headOf 10 = .ok (.ireturn, 1) := by decide +kernel
theorem dX2_waitFrom_0 : decode cX2_waitFrom 0 = .ok (.iload_n 1, 1) := by decide +kernel
theorem dX2_waitFrom_1 : decode cX2_waitFrom 1 = .ok (.istore 4, 2) := by decide +kernel
theorem dX2_waitFrom_3 : decode cX2_waitFrom 3 = .ok (.iload 4, 2) := by decide +kernel
theorem dX2_waitFrom_5 : decode cX2_waitFrom 5 = .ok (.iload_n 1, 1) := by decide +kernel
theorem dX2_waitFrom_6 : decode cX2_waitFrom 6 = .ok (.iconst 3, 1) := by decide +kernel
theorem dX2_waitFrom_7 : decode cX2_waitFrom 7 = .ok (.iadd, 1) := by decide +kernel
theorem dX2_waitFrom_8 : decode cX2_waitFrom 8 = .ok (.if_icmp .ge 20, 3) := by decide +kernel
theorem dX2_waitFrom_11 : decode cX2_waitFrom 11 = .ok (.aload_n 0, 1) := by decide +kernel
theorem dX2_waitFrom_12 : decode cX2_waitFrom 12 = .ok (.iload 4, 2) := by decide +kernel
theorem dX2_waitFrom_14 : decode cX2_waitFrom 14 = .ok (.iload_n 2, 1) := by decide +kernel
theorem dX2_waitFrom_15 : decode cX2_waitFrom 15 = .ok (.aload_n 3, 1) := by decide +kernel
theorem dX2_waitFrom_16 : decode cX2_waitFrom 16 = .ok (.invokevirtual 73, 3) := by decide +kernel
theorem dX2_waitFrom_19 : decode cX2_waitFrom 19 = .ok (.ifCond .ne 9, 3) := by decide +kernel
theorem dX2_waitFrom_22 : decode cX2_waitFrom 22 = .ok (.iinc 4 1, 3) := by decide +kernel
theorem dX2_waitFrom_25 : decode cX2_waitFrom 25 = .ok (.goto (-22), 3) := by decide +kernel
theorem dX2_waitFrom_28 : decode cX2_waitFrom 28 = .ok (.iload 4, 2) := by decide +kernel
theorem dX2_waitFrom_30 : decode cX2_waitFrom 30 = .ok (.ireturn, 1) := by decide +kernel
theorem dX2_isReady_0 : decode cX2_isReady 0 = .ok (.iload_n 2, 1) := by decide +kernel
theorem dX2_isReady_1 : decode cX2_isReady 1 = .ok (.invokestatic 39, 3) := by decide +kernel
theorem dX2_isReady_4 : decode cX2_isReady 4 = .ok (.istore 4, 2) := by decide +kernel
theorem dX2_isReady_6 : decode cX2_isReady 6 = .ok (.iload 4, 2) := by decide +kernel
theorem dX2_isReady_8 : decode cX2_isReady 8 = .ok (.iconst 1, 1) := by decide +kernel
theorem dX2_isReady_9 : decode cX2_isReady 9 = .ok (.if_icmp .lt 16, 3) := by decide +kernel
theorem dX2_isReady_12 : decode cX2_isReady 12 = .ok (.aload_n 0, 1) := by decide +kernel
theorem dX2_isReady_13 : decode cX2_isReady 13 = .ok (.iload_n 1, 1) := by decide +kernel
theorem dX2_isReady_14 : decode cX2_isReady 14 = .ok (.iload_n 2, 1) := by decide +kernel
theorem dX2_isReady_15 : decode cX2_isReady 15 = .ok (.invokestatic 43, 3) := by decide +kernel
theorem dX2_isReady_18 : decode cX2_isReady 18 = .ok (.aload_n 3, 1) := by decide +kernel
theorem dX2_isReady_19 : decode cX2_isReady 19 = .ok (.invokevirtual 77, 3) := by decide +kernel
theorem dX2_isReady_22 : decode cX2_isReady 22 = .ok (.ifCond .eq 26, 3) := by decide +kernel
theorem dX2_isReady_25 : decode cX2_isReady 25 = .ok (.iload 4, 2) := by decide +kernel
theorem dX2_isReady_27 : decode cX2_isReady 27 = .ok (.iconst 2, 1) := by decide +kernel
theorem dX2_isReady_28 : decode cX2_isReady 28 = .ok (.if_icmp .lt 16, 3) := by decide +kernel
theorem dX2_isReady_31 : decode cX2_isReady 31 = .ok (.aload_n 0, 1) := by decide +kernel
theorem dX2_isReady_32 : decode cX2_isReady 32 = .ok (.iload_n 1, 1) := by decide +kernel
theorem dX2_isReady_33 : decode cX2_isReady 33 = .ok (.iload_n 2, 1) := by decide +kernel
theorem dX2_isReady_34 : decode cX2_isReady 34 = .ok (.invokestatic 46, 3) := by decide +kernel
theorem dX2_isReady_37 : decode cX2_isReady 37 = .ok (.aload_n 3, 1) := by decide +kernel
theorem dX2_isReady_38 : decode cX2_isReady 38 = .ok (.invokevirtual 77, 3) := by decide +kernel
theorem dX2_isReady_41 : decode cX2_isReady 41 = .ok (.ifCond .eq 7, 3) := by decide +kernel
theorem dX2_isReady_44 : decode cX2_isReady 44 = .ok (.iconst 1, 1) := by decide +kernel
theorem dX2_isReady_45 : decode cX2_isReady 45 = .ok (.goto 4, 3) := by decide +kernel
theorem dX2_isReady_48 : decode cX2_isReady 48 = .ok (.iconst 0, 1) := by decide +kernel
theorem dX2_isReady_49 : decode cX2_isReady 49 = .ok (.ireturn, 1) := by decide +kernel
theorem dX2_showsMaker_0 : decode cX2_showsMaker 0 = .ok (.iload_n 2, 1) := by decide +kernel
theorem dX2_showsMaker_1 : decode cX2_showsMaker 1 = .ok (.ifCond .lt 17, 3) := by decide +kernel
theorem dX2_showsMaker_4 : decode cX2_showsMaker 4 = .ok (.iload_n 2, 1) := by decide +kernel
theorem dX2_showsMaker_5 : decode cX2_showsMaker 5 = .ok (.iconst 4, 1) := by decide +kernel
theorem dX2_showsMaker_6 : decode cX2_showsMaker 6 = .ok (.if_icmp .ge 12, 3) := by decide +kernel
theorem dX2_showsMaker_9 : decode cX2_showsMaker 9 = .ok (.aload_n 0, 1) := by decide +kernel
theorem dX2_showsMaker_10 : decode cX2_showsMaker 10 = .ok (.getfield 18, 3) := by decide +kernel
theorem dX2_showsMaker_13 : decode cX2_showsMaker 13 = .ok (.iload_n 2, 1) := by decide +kernel
theorem dX2_showsMaker_14 : decode cX2_showsMaker 14 = .ok (.iaload, 1) := by decide +kernel
theorem dX2_showsMaker_15 : decode cX2_showsMaker 15 = .ok (.goto 4, 3) := by decide +kernel
theorem dX2_showsMaker_18 : decode cX2_showsMaker 18 = .ok (.iconst (-1), 1) := by decide +kernel
theorem dX2_showsMaker_19 : decode cX2_showsMaker 19 = .ok (.istore 4, 2) := by decide +kernel
theorem dX2_showsMaker_21 : decode cX2_showsMaker 21 = .ok (.iload 4, 2) := by decide +kernel
theorem dX2_showsMaker_23 : decode cX2_showsMaker 23 = .ok (.ifCond .lt 26, 3) := by decide +kernel
theorem dX2_showsMaker_26 : decode cX2_showsMaker 26 = .ok (.iload 4, 2) := by decide +kernel
theorem dX2_showsMaker_28 : decode cX2_showsMaker 28 = .ok (.bipush 6, 2) := by decide +kernel
theorem dX2_showsMaker_30 : decode cX2_showsMaker 30 = .ok (.if_icmp .ge 19, 3) := by decide +kernel
theorem dX2_showsMaker_33 : decode cX2_showsMaker 33 = .ok (.aload_n 3, 1) := by decide +kernel
theorem dX2_showsMaker_34 : decode cX2_showsMaker 34 = .ok (.iload_n 1, 1) := by decide +kernel
theorem dX2_showsMaker_35 : decode cX2_showsMaker 35 = .ok (.aload_n 0, 1) := by decide +kernel
theorem dX2_showsMaker_36 : decode cX2_showsMaker 36 = .ok (.getfield 21, 3) := by decide +kernel
theorem dX2_showsMaker_39 : decode cX2_showsMaker 39 = .ok (.iload 4, 2) := by decide +kernel
theorem dX2_showsMaker_41 : decode cX2_showsMaker 41 = .ok (.iaload, 1) := by decide +kernel
theorem dX2_showsMaker_42 : decode cX2_showsMaker 42 = .ok (.isub, 1) := by decide +kernel
theorem dX2_showsMaker_43 : decode cX2_showsMaker 43 = .ok (.invokevirtual 80, 3) := by decide +kernel
theorem dX2_showsMaker_46 : decode cX2_showsMaker 46 = .ok (.ifCond .eq 7, 3) := by decide +kernel
theorem dX2_showsMaker_49 : decode cX2_showsMaker 49 = .ok (.iconst 1, 1) := by decide +kernel
theorem dX2_showsMaker_50 : decode cX2_showsMaker 50 = .ok (.goto 4, 3) := by decide +kernel
theorem dX2_showsMaker_53 : decode cX2_showsMaker 53 = .ok (.iconst 0, 1) := by decide +kernel
theorem dX2_showsMaker_54 : decode cX2_showsMaker 54 = .ok (.ireturn, 1) := by decide +kernel
theorem dX2_readBy_0 : decode cX2_readBy 0 = .ok (.iload_n 1, 1) := by decide +kernel
theorem dX2_readBy_1 : decode cX2_readBy 1 = .ok (.iconst 1, 1) := by decide +kernel
theorem dX2_readBy_2 : decode cX2_readBy 2 = .ok (.isub, 1) := by decide +kernel
theorem dX2_readBy_3 : decode cX2_readBy 3 = .ok (.istore 4, 2) := by decide +kernel
theorem dX2_readBy_5 : decode cX2_readBy 5 = .ok (.iload 4, 2) := by decide +kernel
theorem dX2_readBy_7 : decode cX2_readBy 7 = .ok (.ifCond .lt 55, 3) := by decide +kernel
theorem dX2_readBy_10 : decode cX2_readBy 10 = .ok (.iload_n 1, 1) := by decide +kernel
theorem dX2_readBy_11 : decode cX2_readBy 11 = .ok (.bipush 6, 2) := by decide +kernel
theorem dX2_readBy_13 : decode cX2_readBy 13 = .ok (.if_icmp .ge 49, 3) := by decide +kernel
theorem dX2_readBy_16 : decode cX2_readBy 16 = .ok (.aload_n 0, 1) := by decide +kernel
theorem dX2_readBy_17 : decode cX2_readBy 17 = .ok (.getfield 24, 3) := by decide +kernel
theorem dX2_readBy_20 : decode cX2_readBy 20 = .ok (.iload 4, 2) := by decide +kernel
theorem dX2_readBy_22 : decode cX2_readBy 22 = .ok (.iaload, 1) := by decide +kernel
theorem dX2_readBy_23 : decode cX2_readBy 23 = .ok (.iload_n 2, 1) := by decide +kernel
theorem dX2_readBy_24 : decode cX2_readBy 24 = .ok (.if_icmp .ne 32, 3) := by decide +kernel
theorem dX2_readBy_27 : decode cX2_readBy 27 = .ok (.aload_n 3, 1) := by decide +kernel
theorem dX2_readBy_28 : decode cX2_readBy 28 = .ok (.aload_n 0, 1) := by decide +kernel
theorem dX2_readBy_29 : decode cX2_readBy 29 = .ok (.getfield 21, 3) := by decide +kernel
theorem dX2_readBy_32 : decode cX2_readBy 32 = .ok (.iload_n 1, 1) := by decide +kernel
theorem dX2_readBy_33 : decode cX2_readBy 33 = .ok (.iaload, 1) := by decide +kernel
theorem dX2_readBy_34 : decode cX2_readBy 34 = .ok (.aload_n 0, 1) := by decide +kernel
theorem dX2_readBy_35 : decode cX2_readBy 35 = .ok (.getfield 21, 3) := by decide +kernel
theorem dX2_readBy_38 : decode cX2_readBy 38 = .ok (.iload 4, 2) := by decide +kernel
theorem dX2_readBy_40 : decode cX2_readBy 40 = .ok (.iaload, 1) := by decide +kernel
theorem dX2_readBy_41 : decode cX2_readBy 41 = .ok (.isub, 1) := by decide +kernel
theorem dX2_readBy_42 : decode cX2_readBy 42 = .ok (.invokevirtual 80, 3) := by decide +kernel
theorem dX2_readBy_45 : decode cX2_readBy 45 = .ok (.ifCond .eq 11, 3) := by decide +kernel
theorem dX2_readBy_48 : decode cX2_readBy 48 = .ok (.aload_n 0, 1) := by decide +kernel
theorem dX2_readBy_49 : decode cX2_readBy 49 = .ok (.getfield 27, 3) := by decide +kernel
theorem dX2_readBy_52 : decode cX2_readBy 52 = .ok (.iload 4, 2) := by decide +kernel
theorem dX2_readBy_54 : decode cX2_readBy 54 = .ok (.iaload, 1) := by decide +kernel
theorem dX2_readBy_55 : decode cX2_readBy 55 = .ok (.ireturn, 1) := by decide +kernel
theorem dX2_readBy_56 : decode cX2_readBy 56 = .ok (.iinc 4 (-1), 3) := by decide +kernel
theorem dX2_readBy_59 : decode cX2_readBy 59 = .ok (.goto (-54), 3) := by decide +kernel
