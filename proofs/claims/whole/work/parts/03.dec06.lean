theorem dX11_deep_15 : decode cX11_deep 15 = .ok (.invokestatic 122, 3) := by decide +kernel
theorem dX11_deep_18 : decode cX11_deep 18 = .ok (.ifCond .ne 5, 3) := by decide +kernel
theorem dX11_deep_21 : decode cX11_deep 21 = .ok (.iconst (-1), 1) := by decide +kernel
theorem dX11_deep_22 : decode cX11_deep 22 = .ok (.ireturn, 1) := by decide +kernel
theorem dX11_deep_23 : decode cX11_deep 23 = .ok (.aload_n 0, 1) := by decide +kernel
theorem dX11_deep_24 : decode cX11_deep 24 = .ok (.invokevirtual 229, 3) := by decide +kernel
theorem dX11_deep_27 : decode cX11_deep 27 = .ok (.aload_n 0, 1) := by decide +kernel
theorem dX11_deep_28 : decode cX11_deep 28 = .ok (.aload_n 0, 1) := by decide +kernel
theorem dX11_deep_29 : decode cX11_deep 29 = .ok (.getfield 92, 3) := by decide +kernel
theorem dX11_deep_32 : decode cX11_deep 32 = .ok (.iload_n 1, 1) := by decide +kernel
theorem dX11_deep_33 : decode cX11_deep 33 = .ok (.iconst 4, 1) := by decide +kernel
theorem dX11_deep_34 : decode cX11_deep 34 = .ok (.iload_n 2, 1) := by decide +kernel
theorem dX11_deep_35 : decode cX11_deep 35 = .ok (.imul, 1) := by decide +kernel
theorem dX11_deep_36 : decode cX11_deep 36 = .ok (.iadd, 1) := by decide +kernel
theorem dX11_deep_37 : decode cX11_deep 37 = .ok (.iaload, 1) := by decide +kernel
theorem dX11_deep_38 : decode cX11_deep 38 = .ok (.invokevirtual 232, 3) := by decide +kernel
theorem dX11_deep_41 : decode cX11_deep 41 = .ok (.ireturn, 1) := by decide +kernel
theorem dX11_term_0 : decode cX11_term 0 = .ok (.aload_n 0, 1) := by decide +kernel
theorem dX11_term_1 : decode cX11_term 1 = .ok (.iconst 0, 1) := by decide +kernel
theorem dX11_term_2 : decode cX11_term 2 = .ok (.putfield 104, 3) := by decide +kernel
theorem dX11_term_5 : decode cX11_term 5 = .ok (.iload_n 1, 1) := by decide +kernel
theorem dX11_term_6 : decode cX11_term 6 = .ok (.invokestatic 226, 3) := by decide +kernel
theorem dX11_term_9 : decode cX11_term 9 = .ok (.ifCond .eq 16, 3) := by decide +kernel
theorem dX11_term_12 : decode cX11_term 12 = .ok (.iload_n 2, 1) := by decide +kernel
theorem dX11_term_13 : decode cX11_term 13 = .ok (.iconst 0, 1) := by decide +kernel
theorem dX11_term_14 : decode cX11_term 14 = .ok (.iconst 1, 1) := by decide +kernel
theorem dX11_term_15 : decode cX11_term 15 = .ok (.invokestatic 122, 3) := by decide +kernel
theorem dX11_term_18 : decode cX11_term 18 = .ok (.ifCond .eq 7, 3) := by decide +kernel
theorem dX11_term_21 : decode cX11_term 21 = .ok (.iload_n 3, 1) := by decide +kernel
theorem dX11_term_22 : decode cX11_term 22 = .ok (.ifCond .ge 5, 3) := by decide +kernel
theorem dX11_term_25 : decode cX11_term 25 = .ok (.iconst (-1), 1) := by decide +kernel
theorem dX11_term_26 : decode cX11_term 26 = .ok (.ireturn, 1) := by decide +kernel
theorem dX11_term_27 : decode cX11_term 27 = .ok (.aload_n 0, 1) := by decide +kernel
theorem dX11_term_28 : decode cX11_term 28 = .ok (.invokevirtual 229, 3) := by decide +kernel
theorem dX11_term_31 : decode cX11_term 31 = .ok (.aload_n 0, 1) := by decide +kernel
theorem dX11_term_32 : decode cX11_term 32 = .ok (.aload_n 0, 1) := by decide +kernel
theorem dX11_term_33 : decode cX11_term 33 = .ok (.getfield 92, 3) := by decide +kernel
theorem dX11_term_36 : decode cX11_term 36 = .ok (.iload_n 1, 1) := by decide +kernel
theorem dX11_term_37 : decode cX11_term 37 = .ok (.iconst 4, 1) := by decide +kernel
theorem dX11_term_38 : decode cX11_term 38 = .ok (.iload_n 2, 1) := by decide +kernel
theorem dX11_term_39 : decode cX11_term 39 = .ok (.imul, 1) := by decide +kernel
theorem dX11_term_40 : decode cX11_term 40 = .ok (.iadd, 1) := by decide +kernel
theorem dX11_term_41 : decode cX11_term 41 = .ok (.iaload, 1) := by decide +kernel
theorem dX11_term_42 : decode cX11_term 42 = .ok (.iload_n 3, 1) := by decide +kernel
theorem dX11_term_43 : decode cX11_term 43 = .ok (.invokevirtual 236, 3) := by decide +kernel
theorem dX11_term_46 : decode cX11_term 46 = .ok (.istore 4, 2) := by decide +kernel
theorem dX11_term_48 : decode cX11_term 48 = .ok (.iload 4, 2) := by decide +kernel
theorem dX11_term_50 : decode cX11_term 50 = .ok (.bipush (-9), 2) := by decide +kernel
theorem dX11_term_52 : decode cX11_term 52 = .ok (.if_icmp .ne 8, 3) := by decide +kernel
theorem dX11_term_55 : decode cX11_term 55 = .ok (.bipush (-9), 2) := by decide +kernel
theorem dX11_term_57 : decode cX11_term 57 = .ok (.goto 45, 3) := by decide +kernel
theorem dX11_term_60 : decode cX11_term 60 = .ok (.aload_n 0, 1) := by decide +kernel
theorem dX11_term_61 : decode cX11_term 61 = .ok (.getfield 38, 3) := by decide +kernel
theorem dX11_term_64 : decode cX11_term 64 = .ok (.iload 4, 2) := by decide +kernel
theorem dX11_term_66 : decode cX11_term 66 = .ok (.iaload, 1) := by decide +kernel
theorem dX11_term_67 : decode cX11_term 67 = .ok (.iconst 4, 1) := by decide +kernel
theorem dX11_term_68 : decode cX11_term 68 = .ok (.if_icmp .ge 16, 3) := by decide +kernel
theorem dX11_term_71 : decode cX11_term 71 = .ok (.bipush 97, 2) := by decide +kernel
theorem dX11_term_73 : decode cX11_term 73 = .ok (.aload_n 0, 1) := by decide +kernel
theorem dX11_term_74 : decode cX11_term 74 = .ok (.getfield 38, 3) := by decide +kernel
theorem dX11_term_77 : decode cX11_term 77 = .ok (.iload 4, 2) := by decide +kernel
theorem dX11_term_79 : decode cX11_term 79 = .ok (.iaload, 1) := by decide +kernel
theorem dX11_term_80 : decode cX11_term 80 = .ok (.iadd, 1) := by decide +kernel
theorem dX11_term_81 : decode cX11_term 81 = .ok (.goto 21, 3) := by decide +kernel
theorem dX11_term_84 : decode cX11_term 84 = .ok (.aload_n 0, 1) := by decide +kernel
theorem dX11_term_85 : decode cX11_term 85 = .ok (.getfield 38, 3) := by decide +kernel
theorem dX11_term_88 : decode cX11_term 88 = .ok (.iload 4, 2) := by decide +kernel
theorem dX11_term_90 : decode cX11_term 90 = .ok (.iaload, 1) := by decide +kernel
theorem dX11_term_91 : decode cX11_term 91 = .ok (.iconst 4, 1) := by decide +kernel
theorem dX11_term_92 : decode cX11_term 92 = .ok (.if_icmp .ne 8, 3) := by decide +kernel
theorem dX11_term_95 : decode cX11_term 95 = .ok (.bipush 102, 2) := by decide +kernel
theorem dX11_term_97 : decode cX11_term 97 = .ok (.goto 5, 3) := by decide +kernel
theorem dX11_term_100 : decode cX11_term 100 = .ok (.bipush 103, 2) := by decide +kernel
theorem dX11_term_102 : decode cX11_term 102 = .ok (.ireturn, 1) := by decide +kernel
theorem dX11_step_0 : decode cX11_step 0 = .ok (.aload_n 0, 1) := by decide +kernel
theorem dX11_step_1 : decode cX11_step 1 = .ok (.iconst 0, 1) := by decide +kernel
theorem dX11_step_2 : decode cX11_step 2 = .ok (.putfield 104, 3) := by decide +kernel
theorem dX11_step_5 : decode cX11_step 5 = .ok (.iload_n 1, 1) := by decide +kernel
theorem dX11_step_6 : decode cX11_step 6 = .ok (.iconst 0, 1) := by decide +kernel
theorem dX11_step_7 : decode cX11_step 7 = .ok (.aload_n 0, 1) := by decide +kernel
theorem dX11_step_8 : decode cX11_step 8 = .ok (.getfield 20, 3) := by decide +kernel
theorem dX11_step_11 : decode cX11_step 11 = .ok (.iconst 0, 1) := by decide +kernel
theorem dX11_step_12 : decode cX11_step 12 = .ok (.iaload, 1) := by decide +kernel
theorem dX11_step_13 : decode cX11_step 13 = .ok (.iconst 1, 1) := by decide +kernel
theorem dX11_step_14 : decode cX11_step 14 = .ok (.isub, 1) := by decide +kernel
theorem dX11_step_15 : decode cX11_step 15 = .ok (.invokestatic 122, 3) := by decide +kernel
theorem dX11_step_18 : decode cX11_step 18 = .ok (.ifCond .ne 5, 3) := by decide +kernel
theorem dX11_step_21 : decode cX11_step 21 = .ok (.iconst (-1), 1) := by decide +kernel
theorem dX11_step_22 : decode cX11_step 22 = .ok (.ireturn, 1) := by decide +kernel
theorem dX11_step_23 : decode cX11_step 23 = .ok (.aload_n 0, 1) := by decide +kernel
theorem dX11_step_24 : decode cX11_step 24 = .ok (.invokevirtual 229, 3) := by decide +kernel
theorem dX11_step_27 : decode cX11_step 27 = .ok (.aload_n 0, 1) := by decide +kernel
theorem dX11_step_28 : decode cX11_step 28 = .ok (.getfield 86, 3) := by decide +kernel
theorem dX11_step_31 : decode cX11_step 31 = .ok (.iload_n 1, 1) := by decide +kernel
theorem dX11_step_32 : decode cX11_step 32 = .ok (.iaload, 1) := by decide +kernel
theorem dX11_step_33 : decode cX11_step 33 = .ok (.ireturn, 1) := by decide +kernel
theorem dX11_length_0 : decode cX11_length 0 = .ok (.aload_n 0, 1) := by decide +kernel
theorem dX11_length_1 : decode cX11_length 1 = .ok (.iconst 0, 1) := by decide +kernel
theorem dX11_length_2 : decode cX11_length 2 = .ok (.putfield 104, 3) := by decide +kernel
theorem dX11_length_5 : decode cX11_length 5 = .ok (.aload_n 0, 1) := by decide +kernel
theorem dX11_length_6 : decode cX11_length 6 = .ok (.invokevirtual 229, 3) := by decide +kernel
theorem dX11_length_9 : decode cX11_length 9 = .ok (.aload_n 0, 1) := by decide +kernel
theorem dX11_length_10 : decode cX11_length 10 = .ok (.getfield 20, 3) := by decide +kernel
theorem dX11_length_13 : decode cX11_length 13 = .ok (.iconst 0, 1) := by decide +kernel
theorem dX11_length_14 : decode cX11_length 14 = .ok (.iaload, 1) := by decide +kernel
theorem dX11_length_15 : decode cX11_length 15 = .ok (.ifCond .ne 7, 3) := by decide +kernel
theorem dX11_length_18 : decode cX11_length 18 = .ok (.iconst 0, 1) := by decide +kernel
theorem dX11_length_19 : decode cX11_length 19 = .ok (.goto 26, 3) := by decide +kernel
theorem dX11_length_22 : decode cX11_length 22 = .ok (.aload_n 0, 1) := by decide +kernel
theorem dX11_length_23 : decode cX11_length 23 = .ok (.getfield 86, 3) := by decide +kernel
theorem dX11_length_26 : decode cX11_length 26 = .ok (.aload_n 0, 1) := by decide +kernel
theorem dX11_length_27 : decode cX11_length 27 = .ok (.getfield 20, 3) := by decide +kernel
theorem dX11_length_30 : decode cX11_length 30 = .ok (.iconst 0, 1) := by decide +kernel
theorem dX11_length_31 : decode cX11_length 31 = .ok (.iaload, 1) := by decide +kernel
theorem dX11_length_32 : decode cX11_length 32 = .ok (.iconst 1, 1) := by decide +kernel
theorem dX11_length_33 : decode cX11_length 33 = .ok (.isub, 1) := by decide +kernel
theorem dX11_length_34 : decode cX11_length 34 = .ok (.iaload, 1) := by decide +kernel
theorem dX11_length_35 : decode cX11_length 35 = .ok (.iconst 1, 1) := by decide +kernel
theorem dX11_length_36 : decode cX11_length 36 = .ok (.iadd, 1) := by decide +kernel
theorem dX11_length_37 : decode cX11_length 37 = .ok (.aload_n 0, 1) := by decide +kernel
theorem dX11_length_38 : decode cX11_length 38 = .ok (.getfield 20, 3) := by decide +kernel
theorem dX11_length_41 : decode cX11_length 41 = .ok (.bipush 26, 2) := by decide +kernel
theorem dX11_length_43 : decode cX11_length 43 = .ok (.iaload, 1) := by decide +kernel
theorem dX11_length_44 : decode cX11_length 44 = .ok (.iadd, 1) := by decide +kernel
theorem dX11_length_45 : decode cX11_length 45 = .ok (.ireturn, 1) := by decide +kernel
theorem dX11_wrong_0 : decode cX11_wrong 0 = .ok (.aload_n 0, 1) := by decide +kernel
theorem dX11_wrong_1 : decode cX11_wrong 1 = .ok (.iconst 0, 1) := by decide +kernel
theorem dX11_wrong_2 : decode cX11_wrong 2 = .ok (.putfield 104, 3) := by decide +kernel
theorem dX11_wrong_5 : decode cX11_wrong 5 = .ok (.aload_n 0, 1) := by decide +kernel
theorem dX11_wrong_6 : decode cX11_wrong 6 = .ok (.invokevirtual 229, 3) := by decide +kernel
theorem dX11_wrong_9 : decode cX11_wrong 9 = .ok (.aload_n 0, 1) := by decide +kernel
theorem dX11_wrong_10 : decode cX11_wrong 10 = .ok (.aload_n 0, 1) := by decide +kernel
theorem dX11_wrong_11 : decode cX11_wrong 11 = .ok (.getfield 20, 3) := by decide +kernel
theorem dX11_wrong_14 : decode cX11_wrong 14 = .ok (.bipush 25, 2) := by decide +kernel
theorem dX11_wrong_16 : decode cX11_wrong 16 = .ok (.iaload, 1) := by decide +kernel
theorem dX11_wrong_17 : decode cX11_wrong 17 = .ok (.invokevirtual 239, 3) := by decide +kernel
theorem dX11_wrong_20 : decode cX11_wrong 20 = .ok (.ireturn, 1) := by decide +kernel
theorem dX11_needed_0 : decode cX11_needed 0 = .ok (.aload_n 0, 1) := by decide +kernel
theorem dX11_needed_1 : decode cX11_needed 1 = .ok (.iconst 0, 1) := by decide +kernel
theorem dX11_needed_2 : decode cX11_needed 2 = .ok (.putfield 104, 3) := by decide +kernel
theorem dX11_needed_5 : decode cX11_needed 5 = .ok (.iconst 0, 1) := by decide +kernel
theorem dX11_needed_6 : decode cX11_needed 6 = .ok (.istore_n 1, 1) := by decide +kernel
theorem dX11_needed_7 : decode cX11_needed 7 = .ok (.iload_n 1, 1) := by decide +kernel
theorem dX11_needed_8 : decode cX11_needed 8 = .ok (.iconst 4, 1) := by decide +kernel
theorem dX11_needed_9 : decode cX11_needed 9 = .ok (.if_icmp .ge 53, 3) := by decide +kernel
theorem dX11_needed_12 : decode cX11_needed 12 = .ok (.iconst 0, 1) := by decide +kernel
theorem dX11_needed_13 : decode cX11_needed 13 = .ok (.istore_n 2, 1) := by decide +kernel
theorem dX11_needed_14 : decode cX11_needed 14 = .ok (.iload_n 2, 1) := by decide +kernel
theorem dX11_needed_15 : decode cX11_needed 15 = .ok (.bipush 8, 2) := by decide +kernel
theorem dX11_needed_17 : decode cX11_needed 17 = .ok (.if_icmp .ge 39, 3) := by decide +kernel
theorem dX11_needed_20 : decode cX11_needed 20 = .ok (.iload_n 2, 1) := by decide +kernel
theorem dX11_needed_21 : decode cX11_needed 21 = .ok (.invokestatic 242, 3) := by decide +kernel
theorem dX11_needed_24 : decode cX11_needed 24 = .ok (.iload_n 1, 1) := by decide +kernel
theorem dX11_needed_25 : decode cX11_needed 25 = .ok (.if_icmp .ne 25, 3) := by decide +kernel
theorem dX11_needed_28 : decode cX11_needed 28 = .ok (.aload_n 0, 1) := by decide +kernel
theorem dX11_needed_29 : decode cX11_needed 29 = .ok (.iload_n 2, 1) := by decide +kernel
theorem dX11_needed_30 : decode cX11_needed 30 = .ok (.iconst 0, 1) := by decide +kernel
theorem dX11_needed_31 : decode cX11_needed 31 = .ok (.invokevirtual 220, 3) := by decide +kernel
theorem dX11_needed_34 : decode cX11_needed 34 = .ok (.aload_n 0, 1) := by decide +kernel
theorem dX11_needed_35 : decode cX11_needed 35 = .ok (.aload_n 0, 1) := by decide +kernel
theorem dX11_needed_36 : decode cX11_needed 36 = .ok (.getfield 20, 3) := by decide +kernel
theorem dX11_needed_39 : decode cX11_needed 39 = .ok (.bipush 25, 2) := by decide +kernel
theorem dX11_needed_41 : decode cX11_needed 41 = .ok (.iaload, 1) := by decide +kernel
theorem dX11_needed_42 : decode cX11_needed 42 = .ok (.invokevirtual 239, 3) := by decide +kernel
theorem dX11_needed_45 : decode cX11_needed 45 = .ok (.ifCond .ne 5, 3) := by decide +kernel
theorem dX11_needed_48 : decode cX11_needed 48 = .ok (.iload_n 2, 1) := by decide +kernel
theorem dX11_needed_49 : decode cX11_needed 49 = .ok (.ireturn, 1) := by decide +kernel
theorem dX11_needed_50 : decode cX11_needed 50 = .ok (.iinc 2 1, 3) := by decide +kernel
theorem dX11_needed_53 : decode cX11_needed 53 = .ok (.goto (-39), 3) := by decide +kernel
theorem dX11_needed_56 : decode cX11_needed 56 = .ok (.iinc 1 1, 3) := by decide +kernel
theorem dX11_needed_59 : decode cX11_needed 59 = .ok (.goto (-52), 3) := by decide +kernel
theorem dX11_needed_62 : decode cX11_needed 62 = .ok (.bipush (-9), 2) := by decide +kernel
theorem dX11_needed_64 : decode cX11_needed 64 = .ok (.ireturn, 1) := by decide +kernel
theorem dX11_fewest_0 : decode cX11_fewest 0 = .ok (.aload_n 0, 1) := by decide +kernel
theorem dX11_fewest_1 : decode cX11_fewest 1 = .ok (.iconst 0, 1) := by decide +kernel
theorem dX11_fewest_2 : decode cX11_fewest 2 = .ok (.putfield 104, 3) := by decide +kernel
theorem dX11_fewest_5 : decode cX11_fewest 5 = .ok (.aload_n 0, 1) := by decide +kernel
theorem dX11_fewest_6 : decode cX11_fewest 6 = .ok (.invokevirtual 229, 3) := by decide +kernel
theorem dX11_fewest_9 : decode cX11_fewest 9 = .ok (.iconst 0, 1) := by decide +kernel
theorem dX11_fewest_10 : decode cX11_fewest 10 = .ok (.istore_n 1, 1) := by decide +kernel
theorem dX11_fewest_11 : decode cX11_fewest 11 = .ok (.iload_n 1, 1) := by decide +kernel
theorem dX11_fewest_12 : decode cX11_fewest 12 = .ok (.aload_n 0, 1) := by decide +kernel
theorem dX11_fewest_13 : decode cX11_fewest 13 = .ok (.getfield 162, 3) := by decide +kernel
theorem dX11_fewest_16 : decode cX11_fewest 16 = .ok (.if_icmp .gt 59, 3) := by decide +kernel
theorem dX11_fewest_19 : decode cX11_fewest 19 = .ok (.iconst 0, 1) := by decide +kernel
theorem dX11_fewest_20 : decode cX11_fewest 20 = .ok (.istore_n 2, 1) := by decide +kernel
theorem dX11_fewest_21 : decode cX11_fewest 21 = .ok (.iload_n 2, 1) := by decide +kernel
theorem dX11_fewest_22 : decode cX11_fewest 22 = .ok (.iconst 1, 1) := by decide +kernel
theorem dX11_fewest_23 : decode cX11_fewest 23 = .ok (.aload_n 0, 1) := by decide +kernel
theorem dX11_fewest_24 : decode cX11_fewest 24 = .ok (.getfield 162, 3) := by decide +kernel
theorem dX11_fewest_27 : decode cX11_fewest 27 = .ok (.ishl, 1) := by decide +kernel
theorem dX11_fewest_28 : decode cX11_fewest 28 = .ok (.if_icmp .ge 41, 3) := by decide +kernel
theorem dX11_fewest_31 : decode cX11_fewest 31 = .ok (.iload_n 2, 1) := by decide +kernel
theorem dX11_fewest_32 : decode cX11_fewest 32 = .ok (.invokestatic 242, 3) := by decide +kernel
theorem dX11_fewest_35 : decode cX11_fewest 35 = .ok (.iload_n 1, 1) := by decide +kernel
theorem dX11_fewest_36 : decode cX11_fewest 36 = .ok (.if_icmp .ne 27, 3) := by decide +kernel
theorem dX11_fewest_39 : decode cX11_fewest 39 = .ok (.iload_n 2, 1) := by decide +kernel
theorem dX11_fewest_40 : decode cX11_fewest 40 = .ok (.aload_n 0, 1) := by decide +kernel
theorem dX11_fewest_41 : decode cX11_fewest 41 = .ok (.getfield 20, 3) := by decide +kernel
theorem dX11_fewest_44 : decode cX11_fewest 44 = .ok (.bipush 25, 2) := by decide +kernel
theorem dX11_fewest_46 : decode cX11_fewest 46 = .ok (.iaload, 1) := by decide +kernel
theorem dX11_fewest_47 : decode cX11_fewest 47 = .ok (.iconst (-1), 1) := by decide +kernel
theorem dX11_fewest_48 : decode cX11_fewest 48 = .ok (.ixor, 1) := by decide +kernel
theorem dX11_fewest_49 : decode cX11_fewest 49 = .ok (.iand, 1) := by decide +kernel
theorem dX11_fewest_50 : decode cX11_fewest 50 = .ok (.ifCond .ne 13, 3) := by decide +kernel
theorem dX11_fewest_53 : decode cX11_fewest 53 = .ok (.aload_n 0, 1) := by decide +kernel
theorem dX11_fewest_54 : decode cX11_fewest 54 = .ok (.iload_n 2, 1) := by decide +kernel
theorem dX11_fewest_55 : decode cX11_fewest 55 = .ok (.invokevirtual 239, 3) := by decide +kernel
theorem dX11_fewest_58 : decode cX11_fewest 58 = .ok (.ifCond .ne 5, 3) := by decide +kernel
theorem dX11_fewest_61 : decode cX11_fewest 61 = .ok (.iload_n 2, 1) := by decide +kernel
theorem dX11_fewest_62 : decode cX11_fewest 62 = .ok (.ireturn, 1) := by decide +kernel
theorem dX11_fewest_63 : decode cX11_fewest 63 = .ok (.iinc 2 1, 3) := by decide +kernel
theorem dX11_fewest_66 : decode cX11_fewest 66 = .ok (.goto (-45), 3) := by decide +kernel
theorem dX11_fewest_69 : decode cX11_fewest 69 = .ok (.iinc 1 1, 3) := by decide +kernel
theorem dX11_fewest_72 : decode cX11_fewest 72 = .ok (.goto (-61), 3) := by decide +kernel
theorem dX11_fewest_75 : decode cX11_fewest 75 = .ok (.bipush (-9), 2) := by decide +kernel
theorem dX11_fewest_77 : decode cX11_fewest 77 = .ok (.ireturn, 1) := by decide +kernel
theorem dX11_unlike_0 : decode cX11_unlike 0 = .ok (.iconst 0, 1) := by decide +kernel
theorem dX11_unlike_1 : decode cX11_unlike 1 = .ok (.istore_n 1, 1) := by decide +kernel
theorem dX11_unlike_2 : decode cX11_unlike 2 = .ok (.iconst 0, 1) := by decide +kernel
theorem dX11_unlike_3 : decode cX11_unlike 3 = .ok (.istore_n 2, 1) := by decide +kernel
theorem dX11_unlike_4 : decode cX11_unlike 4 = .ok (.iload_n 2, 1) := by decide +kernel
theorem dX11_unlike_5 : decode cX11_unlike 5 = .ok (.iconst 4, 1) := by decide +kernel
theorem dX11_unlike_6 : decode cX11_unlike 6 = .ok (.if_icmp .ge 36, 3) := by decide +kernel
theorem dX11_unlike_9 : decode cX11_unlike 9 = .ok (.iload_n 1, 1) := by decide +kernel
theorem dX11_unlike_10 : decode cX11_unlike 10 = .ok (.aload_n 0, 1) := by decide +kernel
theorem dX11_unlike_11 : decode cX11_unlike 11 = .ok (.getfield 92, 3) := by decide +kernel
theorem dX11_unlike_14 : decode cX11_unlike 14 = .ok (.iload_n 2, 1) := by decide +kernel
theorem dX11_unlike_15 : decode cX11_unlike 15 = .ok (.iaload, 1) := by decide +kernel
theorem dX11_unlike_16 : decode cX11_unlike 16 = .ok (.aload_n 0, 1) := by decide +kernel
theorem dX11_unlike_17 : decode cX11_unlike 17 = .ok (.getfield 92, 3) := by decide +kernel
theorem dX11_unlike_20 : decode cX11_unlike 20 = .ok (.iload_n 2, 1) := by decide +kernel
theorem dX11_unlike_21 : decode cX11_unlike 21 = .ok (.iconst 4, 1) := by decide +kernel
theorem dX11_unlike_22 : decode cX11_unlike 22 = .ok (.iadd, 1) := by decide +kernel
theorem dX11_unlike_23 : decode cX11_unlike 23 = .ok (.iaload, 1) := by decide +kernel
theorem dX11_unlike_24 : decode cX11_unlike 24 = .ok (.if_icmp .ne 7, 3) := by decide +kernel
theorem dX11_unlike_27 : decode cX11_unlike 27 = .ok (.iconst 0, 1) := by decide +kernel
theorem dX11_unlike_28 : decode cX11_unlike 28 = .ok (.goto 6, 3) := by decide +kernel
theorem dX11_unlike_31 : decode cX11_unlike 31 = .ok (.iconst 1, 1) := by decide +kernel
theorem dX11_unlike_32 : decode cX11_unlike 32 = .ok (.iload_n 2, 1) := by decide +kernel
theorem dX11_unlike_33 : decode cX11_unlike 33 = .ok (.ishl, 1) := by decide +kernel
theorem dX11_unlike_34 : decode cX11_unlike 34 = .ok (.ior, 1) := by decide +kernel
theorem dX11_unlike_35 : decode cX11_unlike 35 = .ok (.istore_n 1, 1) := by decide +kernel
theorem dX11_unlike_36 : decode cX11_unlike 36 = .ok (.iinc 2 1, 3) := by decide +kernel
theorem dX11_unlike_39 : decode cX11_unlike 39 = .ok (.goto (-35), 3) := by decide +kernel
theorem dX11_unlike_42 : decode cX11_unlike 42 = .ok (.iload_n 1, 1) := by decide +kernel
theorem dX11_unlike_43 : decode cX11_unlike 43 = .ok (.ireturn, 1) := by decide +kernel
theorem dX11_breaks_0 : decode cX11_breaks 0 = .ok (.aload_n 0, 1) := by decide +kernel
theorem dX11_breaks_1 : decode cX11_breaks 1 = .ok (.getfield 20, 3) := by decide +kernel
theorem dX11_breaks_4 : decode cX11_breaks 4 = .ok (.iconst 0, 1) := by decide +kernel
theorem dX11_breaks_5 : decode cX11_breaks 5 = .ok (.iload_n 1, 1) := by decide +kernel
theorem dX11_breaks_6 : decode cX11_breaks 6 = .ok (.iastore, 1) := by decide +kernel
theorem dX11_breaks_7 : decode cX11_breaks 7 = .ok (.iconst 0, 1) := by decide +kernel
theorem dX11_breaks_8 : decode cX11_breaks 8 = .ok (.istore_n 3, 1) := by decide +kernel
theorem dX11_breaks_9 : decode cX11_breaks 9 = .ok (.iload_n 3, 1) := by decide +kernel
theorem dX11_breaks_10 : decode cX11_breaks 10 = .ok (.iload_n 1, 1) := by decide +kernel
theorem dX11_breaks_11 : decode cX11_breaks 11 = .ok (.if_icmp .ge 84, 3) := by decide +kernel
theorem dX11_breaks_14 : decode cX11_breaks 14 = .ok (.iload_n 2, 1) := by decide +kernel
theorem dX11_breaks_15 : decode cX11_breaks 15 = .ok (.iconst 3, 1) := by decide +kernel
theorem dX11_breaks_16 : decode cX11_breaks 16 = .ok (.iload_n 1, 1) := by decide +kernel
theorem dX11_breaks_17 : decode cX11_breaks 17 = .ok (.iconst 1, 1) := by decide +kernel
theorem dX11_breaks_18 : decode cX11_breaks 18 = .ok (.isub, 1) := by decide +kernel
theorem dX11_breaks_19 : decode cX11_breaks 19 = .ok (.iload_n 3, 1) := by decide +kernel
theorem dX11_breaks_20 : decode cX11_breaks 20 = .ok (.isub, 1) := by decide +kernel
theorem dX11_breaks_21 : decode cX11_breaks 21 = .ok (.imul, 1) := by decide +kernel
theorem dX11_breaks_22 : decode cX11_breaks 22 = .ok (.ishr, 1) := by decide +kernel
theorem dX11_breaks_23 : decode cX11_breaks 23 = .ok (.bipush 7, 2) := by decide +kernel
theorem dX11_breaks_25 : decode cX11_breaks 25 = .ok (.iand, 1) := by decide +kernel
theorem dX11_breaks_26 : decode cX11_breaks 26 = .ok (.istore 4, 2) := by decide +kernel
theorem dX11_breaks_28 : decode cX11_breaks 28 = .ok (.aload_n 0, 1) := by decide +kernel
theorem dX11_breaks_29 : decode cX11_breaks 29 = .ok (.getfield 20, 3) := by decide +kernel
theorem dX11_breaks_32 : decode cX11_breaks 32 = .ok (.iconst 1, 1) := by decide +kernel
theorem dX11_breaks_33 : decode cX11_breaks 33 = .ok (.iconst 4, 1) := by decide +kernel
theorem dX11_breaks_34 : decode cX11_breaks 34 = .ok (.iload_n 3, 1) := by decide +kernel
theorem dX11_breaks_35 : decode cX11_breaks 35 = .ok (.imul, 1) := by decide +kernel
theorem dX11_breaks_36 : decode cX11_breaks 36 = .ok (.iadd, 1) := by decide +kernel
theorem dX11_breaks_37 : decode cX11_breaks 37 = .ok (.iconst 2, 1) := by decide +kernel
theorem dX11_breaks_38 : decode cX11_breaks 38 = .ok (.iastore, 1) := by decide +kernel
theorem dX11_breaks_39 : decode cX11_breaks 39 = .ok (.aload_n 0, 1) := by decide +kernel
theorem dX11_breaks_40 : decode cX11_breaks 40 = .ok (.getfield 20, 3) := by decide +kernel
theorem dX11_breaks_43 : decode cX11_breaks 43 = .ok (.iconst 1, 1) := by decide +kernel
theorem dX11_breaks_44 : decode cX11_breaks 44 = .ok (.iconst 4, 1) := by decide +kernel
theorem dX11_breaks_45 : decode cX11_breaks 45 = .ok (.iload_n 3, 1) := by decide +kernel
theorem dX11_breaks_46 : decode cX11_breaks 46 = .ok (.imul, 1) := by decide +kernel
theorem dX11_breaks_47 : decode cX11_breaks 47 = .ok (.iadd, 1) := by decide +kernel
theorem dX11_breaks_48 : decode cX11_breaks 48 = .ok (.iconst 1, 1) := by decide +kernel
theorem dX11_breaks_49 : decode cX11_breaks 49 = .ok (.iadd, 1) := by decide +kernel
theorem dX11_breaks_50 : decode cX11_breaks 50 = .ok (.iload 4, 2) := by decide +kernel
theorem dX11_breaks_52 : decode cX11_breaks 52 = .ok (.iconst 2, 1) := by decide +kernel
theorem dX11_breaks_53 : decode cX11_breaks 53 = .ok (.ishr, 1) := by decide +kernel
theorem dX11_breaks_54 : decode cX11_breaks 54 = .ok (.iastore, 1) := by decide +kernel
theorem dX11_breaks_55 : decode cX11_breaks 55 = .ok (.aload_n 0, 1) := by decide +kernel
theorem dX11_breaks_56 : decode cX11_breaks 56 = .ok (.getfield 20, 3) := by decide +kernel
theorem dX11_breaks_59 : decode cX11_breaks 59 = .ok (.iconst 1, 1) := by decide +kernel
theorem dX11_breaks_60 : decode cX11_breaks 60 = .ok (.iconst 4, 1) := by decide +kernel
theorem dX11_breaks_61 : decode cX11_breaks 61 = .ok (.iload_n 3, 1) := by decide +kernel
theorem dX11_breaks_62 : decode cX11_breaks 62 = .ok (.imul, 1) := by decide +kernel
theorem dX11_breaks_63 : decode cX11_breaks 63 = .ok (.iadd, 1) := by decide +kernel
theorem dX11_breaks_64 : decode cX11_breaks 64 = .ok (.iconst 2, 1) := by decide +kernel
theorem dX11_breaks_65 : decode cX11_breaks 65 = .ok (.iadd, 1) := by decide +kernel
theorem dX11_breaks_66 : decode cX11_breaks 66 = .ok (.iload 4, 2) := by decide +kernel
theorem dX11_breaks_68 : decode cX11_breaks 68 = .ok (.iconst 1, 1) := by decide +kernel
theorem dX11_breaks_69 : decode cX11_breaks 69 = .ok (.ishr, 1) := by decide +kernel
theorem dX11_breaks_70 : decode cX11_breaks 70 = .ok (.iconst 1, 1) := by decide +kernel
theorem dX11_breaks_71 : decode cX11_breaks 71 = .ok (.iand, 1) := by decide +kernel
theorem dX11_breaks_72 : decode cX11_breaks 72 = .ok (.iastore, 1) := by decide +kernel
theorem dX11_breaks_73 : decode cX11_breaks 73 = .ok (.aload_n 0, 1) := by decide +kernel
theorem dX11_breaks_74 : decode cX11_breaks 74 = .ok (.getfield 20, 3) := by decide +kernel
theorem dX11_breaks_77 : decode cX11_breaks 77 = .ok (.iconst 1, 1) := by decide +kernel
theorem dX11_breaks_78 : decode cX11_breaks 78 = .ok (.iconst 4, 1) := by decide +kernel
theorem dX11_breaks_79 : decode cX11_breaks 79 = .ok (.iload_n 3, 1) := by decide +kernel
theorem dX11_breaks_80 : decode cX11_breaks 80 = .ok (.imul, 1) := by decide +kernel
theorem dX11_breaks_81 : decode cX11_breaks 81 = .ok (.iadd, 1) := by decide +kernel
theorem dX11_breaks_82 : decode cX11_breaks 82 = .ok (.iconst 3, 1) := by decide +kernel
theorem dX11_breaks_83 : decode cX11_breaks 83 = .ok (.iadd, 1) := by decide +kernel
theorem dX11_breaks_84 : decode cX11_breaks 84 = .ok (.iload 4, 2) := by decide +kernel
theorem dX11_breaks_86 : decode cX11_breaks 86 = .ok (.iconst 1, 1) := by decide +kernel
theorem dX11_breaks_87 : decode cX11_breaks 87 = .ok (.iand, 1) := by decide +kernel
theorem dX11_breaks_88 : decode cX11_breaks 88 = .ok (.iastore, 1) := by decide +kernel
theorem dX11_breaks_89 : decode cX11_breaks 89 = .ok (.iinc 3 1, 3) := by decide +kernel
theorem dX11_breaks_92 : decode cX11_breaks 92 = .ok (.goto (-83), 3) := by decide +kernel
theorem dX11_breaks_95 : decode cX11_breaks 95 = .ok (.aload_n 0, 1) := by decide +kernel
theorem dX11_breaks_96 : decode cX11_breaks 96 = .ok (.invokevirtual 229, 3) := by decide +kernel
theorem dX11_breaks_99 : decode cX11_breaks 99 = .ok (.aload_n 0, 1) := by decide +kernel
theorem dX11_breaks_100 : decode cX11_breaks 100 = .ok (.invokevirtual 245, 3) := by decide +kernel
theorem dX11_breaks_103 : decode cX11_breaks 103 = .ok (.ifCond .eq 7, 3) := by decide +kernel
theorem dX11_breaks_106 : decode cX11_breaks 106 = .ok (.iconst 1, 1) := by decide +kernel
theorem dX11_breaks_107 : decode cX11_breaks 107 = .ok (.goto 4, 3) := by decide +kernel
theorem dX11_breaks_110 : decode cX11_breaks 110 = .ok (.iconst 0, 1) := by decide +kernel
theorem dX11_breaks_111 : decode cX11_breaks 111 = .ok (.ireturn, 1) := by decide +kernel
theorem dX11_breaker_0 : decode cX11_breaker 0 = .ok (.iconst 1, 1) := by decide +kernel
theorem dX11_breaker_1 : decode cX11_breaker 1 = .ok (.istore_n 1, 1) := by decide +kernel
theorem dX11_breaker_2 : decode cX11_breaker 2 = .ok (.iload_n 1, 1) := by decide +kernel
theorem dX11_breaker_3 : decode cX11_breaker 3 = .ok (.iconst 5, 1) := by decide +kernel
theorem dX11_breaker_4 : decode cX11_breaker 4 = .ok (.if_icmp .ge 42, 3) := by decide +kernel
theorem dX11_breaker_7 : decode cX11_breaker 7 = .ok (.iconst 0, 1) := by decide +kernel
theorem dX11_breaker_8 : decode cX11_breaker 8 = .ok (.istore_n 2, 1) := by decide +kernel
theorem dX11_breaker_9 : decode cX11_breaker 9 = .ok (.iload_n 2, 1) := by decide +kernel
theorem dX11_breaker_10 : decode cX11_breaker 10 = .ok (.iconst 1, 1) := by decide +kernel
theorem dX11_breaker_11 : decode cX11_breaker 11 = .ok (.iconst 3, 1) := by decide +kernel
theorem dX11_breaker_12 : decode cX11_breaker 12 = .ok (.iload_n 1, 1) := by decide +kernel
theorem dX11_breaker_13 : decode cX11_breaker 13 = .ok (.imul, 1) := by decide +kernel
theorem dX11_breaker_14 : decode cX11_breaker 14 = .ok (.ishl, 1) := by decide +kernel
theorem dX11_breaker_15 : decode cX11_breaker 15 = .ok (.if_icmp .ge 25, 3) := by decide +kernel
theorem dX11_breaker_18 : decode cX11_breaker 18 = .ok (.aload_n 0, 1) := by decide +kernel
theorem dX11_breaker_19 : decode cX11_breaker 19 = .ok (.iload_n 1, 1) := by decide +kernel
theorem dX11_breaker_20 : decode cX11_breaker 20 = .ok (.iload_n 2, 1) := by decide +kernel
theorem dX11_breaker_21 : decode cX11_breaker 21 = .ok (.invokevirtual 248, 3) := by decide +kernel
theorem dX11_breaker_24 : decode cX11_breaker 24 = .ok (.ifCond .eq 10, 3) := by decide +kernel
theorem dX11_breaker_27 : decode cX11_breaker 27 = .ok (.iload_n 1, 1) := by decide +kernel
theorem dX11_breaker_28 : decode cX11_breaker 28 = .ok (.bipush 12, 2) := by decide +kernel
theorem dX11_breaker_30 : decode cX11_breaker 30 = .ok (.ishl, 1) := by decide +kernel
theorem dX11_breaker_31 : decode cX11_breaker 31 = .ok (.iload_n 2, 1) := by decide +kernel
theorem dX11_breaker_32 : decode cX11_breaker 32 = .ok (.ior, 1) := by decide +kernel
theorem dX11_breaker_33 : decode cX11_breaker 33 = .ok (.ireturn, 1) := by decide +kernel
theorem dX11_breaker_34 : decode cX11_breaker 34 = .ok (.iinc 2 1, 3) := by decide +kernel
theorem dX11_breaker_37 : decode cX11_breaker 37 = .ok (.goto (-28), 3) := by decide +kernel
theorem dX11_breaker_40 : decode cX11_breaker 40 = .ok (.iinc 1 1, 3) := by decide +kernel
theorem dX11_breaker_43 : decode cX11_breaker 43 = .ok (.goto (-41), 3) := by decide +kernel
theorem dX11_breaker_46 : decode cX11_breaker 46 = .ok (.bipush (-9), 2) := by decide +kernel
theorem dX11_breaker_48 : decode cX11_breaker 48 = .ok (.ireturn, 1) := by decide +kernel
theorem dX11_broken_0 : decode cX11_broken 0 = .ok (.aload_n 0, 1) := by decide +kernel
theorem dX11_broken_1 : decode cX11_broken 1 = .ok (.iconst 0, 1) := by decide +kernel
theorem dX11_broken_2 : decode cX11_broken 2 = .ok (.putfield 104, 3) := by decide +kernel
theorem dX11_broken_5 : decode cX11_broken 5 = .ok (.iload_n 1, 1) := by decide +kernel
theorem dX11_broken_6 : decode cX11_broken 6 = .ok (.iconst (-1), 1) := by decide +kernel
theorem dX11_broken_7 : decode cX11_broken 7 = .ok (.if_icmp .ge 5, 3) := by decide +kernel
theorem dX11_broken_10 : decode cX11_broken 10 = .ok (.iconst (-1), 1) := by decide +kernel
theorem dX11_broken_11 : decode cX11_broken 11 = .ok (.ireturn, 1) := by decide +kernel
theorem dX11_broken_12 : decode cX11_broken 12 = .ok (.iconst 0, 1) := by decide +kernel
theorem dX11_broken_13 : decode cX11_broken 13 = .ok (.istore_n 2, 1) := by decide +kernel
theorem dX11_broken_14 : decode cX11_broken 14 = .ok (.iload_n 2, 1) := by decide +kernel
theorem dX11_broken_15 : decode cX11_broken 15 = .ok (.bipush 29, 2) := by decide +kernel
theorem dX11_broken_17 : decode cX11_broken 17 = .ok (.if_icmp .ge 21, 3) := by decide +kernel
theorem dX11_broken_20 : decode cX11_broken 20 = .ok (.aload_n 0, 1) := by decide +kernel
theorem dX11_broken_21 : decode cX11_broken 21 = .ok (.getfield 95, 3) := by decide +kernel
theorem dX11_broken_24 : decode cX11_broken 24 = .ok (.iload_n 2, 1) := by decide +kernel
theorem dX11_broken_25 : decode cX11_broken 25 = .ok (.aload_n 0, 1) := by decide +kernel
theorem dX11_broken_26 : decode cX11_broken 26 = .ok (.getfield 20, 3) := by decide +kernel
theorem dX11_broken_29 : decode cX11_broken 29 = .ok (.iload_n 2, 1) := by decide +kernel
theorem dX11_broken_30 : decode cX11_broken 30 = .ok (.iaload, 1) := by decide +kernel
theorem dX11_broken_31 : decode cX11_broken 31 = .ok (.iastore, 1) := by decide +kernel
theorem dX11_broken_32 : decode cX11_broken 32 = .ok (.iinc 2 1, 3) := by decide +kernel
theorem dX11_broken_35 : decode cX11_broken 35 = .ok (.goto (-21), 3) := by decide +kernel
theorem dX11_broken_38 : decode cX11_broken 38 = .ok (.aload_n 0, 1) := by decide +kernel
theorem dX11_broken_39 : decode cX11_broken 39 = .ok (.invokevirtual 251, 3) := by decide +kernel
theorem dX11_broken_42 : decode cX11_broken 42 = .ok (.istore_n 2, 1) := by decide +kernel
theorem dX11_broken_43 : decode cX11_broken 43 = .ok (.iconst 0, 1) := by decide +kernel
theorem dX11_broken_44 : decode cX11_broken 44 = .ok (.istore_n 3, 1) := by decide +kernel
theorem dX11_broken_45 : decode cX11_broken 45 = .ok (.iload_n 3, 1) := by decide +kernel
theorem dX11_broken_46 : decode cX11_broken 46 = .ok (.bipush 29, 2) := by decide +kernel
theorem dX11_broken_48 : decode cX11_broken 48 = .ok (.if_icmp .ge 21, 3) := by decide +kernel
theorem dX11_broken_51 : decode cX11_broken 51 = .ok (.aload_n 0, 1) := by decide +kernel
theorem dX11_broken_52 : decode cX11_broken 52 = .ok (.getfield 20, 3) := by decide +kernel
theorem dX11_broken_55 : decode cX11_broken 55 = .ok (.iload_n 3, 1) := by decide +kernel
theorem dX11_broken_56 : decode cX11_broken 56 = .ok (.aload_n 0, 1) := by decide +kernel
theorem dX11_broken_57 : decode cX11_broken 57 = .ok (.getfield 95, 3) := by decide +kernel
theorem dX11_broken_60 : decode cX11_broken 60 = .ok (.iload_n 3, 1) := by decide +kernel
theorem dX11_broken_61 : decode cX11_broken 61 = .ok (.iaload, 1) := by decide +kernel
theorem dX11_broken_62 : decode cX11_broken 62 = .ok (.iastore, 1) := by decide +kernel
theorem dX11_broken_63 : decode cX11_broken 63 = .ok (.iinc 3 1, 3) := by decide +kernel
theorem dX11_broken_66 : decode cX11_broken 66 = .ok (.goto (-21), 3) := by decide +kernel
theorem dX11_broken_69 : decode cX11_broken 69 = .ok (.iload_n 2, 1) := by decide +kernel
theorem dX11_broken_70 : decode cX11_broken 70 = .ok (.bipush (-9), 2) := by decide +kernel
theorem dX11_broken_72 : decode cX11_broken 72 = .ok (.if_icmp .ne 7, 3) := by decide +kernel
theorem dX11_broken_75 : decode cX11_broken 75 = .ok (.iconst 0, 1) := by decide +kernel
theorem dX11_broken_76 : decode cX11_broken 76 = .ok (.goto 7, 3) := by decide +kernel
theorem dX11_broken_79 : decode cX11_broken 79 = .ok (.iload_n 2, 1) := by decide +kernel
theorem dX11_broken_80 : decode cX11_broken 80 = .ok (.bipush 12, 2) := by decide +kernel
theorem dX11_broken_82 : decode cX11_broken 82 = .ok (.ishr, 1) := by decide +kernel
theorem dX11_broken_83 : decode cX11_broken 83 = .ok (.istore_n 3, 1) := by decide +kernel
theorem dX11_broken_84 : decode cX11_broken 84 = .ok (.iload_n 2, 1) := by decide +kernel
theorem dX11_broken_85 : decode cX11_broken 85 = .ok (.bipush (-9), 2) := by decide +kernel
theorem dX11_broken_87 : decode cX11_broken 87 = .ok (.if_icmp .eq 8, 3) := by decide +kernel
theorem dX11_broken_90 : decode cX11_broken 90 = .ok (.iload_n 1, 1) := by decide +kernel
theorem dX11_broken_91 : decode cX11_broken 91 = .ok (.iload_n 3, 1) := by decide +kernel
theorem dX11_broken_92 : decode cX11_broken 92 = .ok (.if_icmp .lt 6, 3) := by decide +kernel
theorem dX11_broken_95 : decode cX11_broken 95 = .ok (.bipush (-9), 2) := by decide +kernel
theorem dX11_broken_97 : decode cX11_broken 97 = .ok (.ireturn, 1) := by decide +kernel
theorem dX11_broken_98 : decode cX11_broken 98 = .ok (.iload_n 1, 1) := by decide +kernel
theorem dX11_broken_99 : decode cX11_broken 99 = .ok (.ifCond .ge 7, 3) := by decide +kernel
theorem dX11_broken_102 : decode cX11_broken 102 = .ok (.iload_n 3, 1) := by decide +kernel
theorem dX11_broken_103 : decode cX11_broken 103 = .ok (.goto 15, 3) := by decide +kernel
theorem dX11_broken_106 : decode cX11_broken 106 = .ok (.iload_n 2, 1) := by decide +kernel
theorem dX11_broken_107 : decode cX11_broken 107 = .ok (.iconst 3, 1) := by decide +kernel
theorem dX11_broken_108 : decode cX11_broken 108 = .ok (.iload_n 3, 1) := by decide +kernel
theorem dX11_broken_109 : decode cX11_broken 109 = .ok (.iconst 1, 1) := by decide +kernel
theorem dX11_broken_110 : decode cX11_broken 110 = .ok (.isub, 1) := by decide +kernel
theorem dX11_broken_111 : decode cX11_broken 111 = .ok (.iload_n 1, 1) := by decide +kernel
theorem dX11_broken_112 : decode cX11_broken 112 = .ok (.isub, 1) := by decide +kernel
theorem dX11_broken_113 : decode cX11_broken 113 = .ok (.imul, 1) := by decide +kernel
theorem dX11_broken_114 : decode cX11_broken 114 = .ok (.ishr, 1) := by decide +kernel
theorem dX11_broken_115 : decode cX11_broken 115 = .ok (.bipush 7, 2) := by decide +kernel
theorem dX11_broken_117 : decode cX11_broken 117 = .ok (.iand, 1) := by decide +kernel
theorem dX11_broken_118 : decode cX11_broken 118 = .ok (.ireturn, 1) := by decide +kernel
theorem dX11_notes_0 : decode cX11_notes 0 = .ok (.aload_n 0, 1) := by decide +kernel
theorem dX11_notes_1 : decode cX11_notes 1 = .ok (.getfield 165, 3) := by decide +kernel
theorem dX11_notes_4 : decode cX11_notes 4 = .ok (.bipush 10, 2) := by decide +kernel
theorem dX11_notes_6 : decode cX11_notes 6 = .ok (.if_icmp .ne 43, 3) := by decide +kernel
theorem dX11_notes_9 : decode cX11_notes 9 = .ok (.iconst 0, 1) := by decide +kernel
theorem dX11_notes_10 : decode cX11_notes 10 = .ok (.istore_n 1, 1) := by decide +kernel
theorem dX11_notes_11 : decode cX11_notes 11 = .ok (.iload_n 1, 1) := by decide +kernel
theorem dX11_notes_12 : decode cX11_notes 12 = .ok (.sipush 261, 3) := by decide +kernel
theorem dX11_notes_15 : decode cX11_notes 15 = .ok (.if_icmp .ge 24, 3) := by decide +kernel
theorem dX11_notes_18 : decode cX11_notes 18 = .ok (.aload_n 0, 1) := by decide +kernel
theorem dX11_notes_19 : decode cX11_notes 19 = .ok (.getfield 23, 3) := by decide +kernel
theorem dX11_notes_22 : decode cX11_notes 22 = .ok (.iload_n 1, 1) := by decide +kernel
theorem dX11_notes_23 : decode cX11_notes 23 = .ok (.aload_n 0, 1) := by decide +kernel
theorem dX11_notes_24 : decode cX11_notes 24 = .ok (.getfield 23, 3) := by decide +kernel
theorem dX11_notes_27 : decode cX11_notes 27 = .ok (.iload_n 1, 1) := by decide +kernel
theorem dX11_notes_28 : decode cX11_notes 28 = .ok (.bipush 29, 2) := by decide +kernel
theorem dX11_notes_30 : decode cX11_notes 30 = .ok (.iadd, 1) := by decide +kernel
theorem dX11_notes_31 : decode cX11_notes 31 = .ok (.iaload, 1) := by decide +kernel
theorem dX11_notes_32 : decode cX11_notes 32 = .ok (.iastore, 1) := by decide +kernel
theorem dX11_notes_33 : decode cX11_notes 33 = .ok (.iinc 1 1, 3) := by decide +kernel
theorem dX11_notes_36 : decode cX11_notes 36 = .ok (.goto (-25), 3) := by decide +kernel
theorem dX11_notes_39 : decode cX11_notes 39 = .ok (.aload_n 0, 1) := by decide +kernel
theorem dX11_notes_40 : decode cX11_notes 40 = .ok (.dup, 1) := by decide +kernel
theorem dX11_notes_41 : decode cX11_notes 41 = .ok (.getfield 165, 3) := by decide +kernel
theorem dX11_notes_44 : decode cX11_notes 44 = .ok (.iconst 1, 1) := by decide +kernel
theorem dX11_notes_45 : decode cX11_notes 45 = .ok (.isub, 1) := by decide +kernel
theorem dX11_notes_46 : decode cX11_notes 46 = .ok (.putfield 165, 3) := by decide +kernel
theorem dX11_notes_49 : decode cX11_notes 49 = .ok (.iconst 0, 1) := by decide +kernel
theorem dX11_notes_50 : decode cX11_notes 50 = .ok (.istore_n 1, 1) := by decide +kernel
theorem dX11_notes_51 : decode cX11_notes 51 = .ok (.iload_n 1, 1) := by decide +kernel
theorem dX11_notes_52 : decode cX11_notes 52 = .ok (.bipush 29, 2) := by decide +kernel
theorem dX11_notes_54 : decode cX11_notes 54 = .ok (.if_icmp .ge 29, 3) := by decide +kernel
theorem dX11_notes_57 : decode cX11_notes 57 = .ok (.aload_n 0, 1) := by decide +kernel
theorem dX11_notes_58 : decode cX11_notes 58 = .ok (.getfield 23, 3) := by decide +kernel
theorem dX11_notes_61 : decode cX11_notes 61 = .ok (.bipush 29, 2) := by decide +kernel
theorem dX11_notes_63 : decode cX11_notes 63 = .ok (.aload_n 0, 1) := by decide +kernel
theorem dX11_notes_64 : decode cX11_notes 64 = .ok (.getfield 165, 3) := by decide +kernel
theorem dX11_notes_67 : decode cX11_notes 67 = .ok (.imul, 1) := by decide +kernel
theorem dX11_notes_68 : decode cX11_notes 68 = .ok (.iload_n 1, 1) := by decide +kernel
theorem dX11_notes_69 : decode cX11_notes 69 = .ok (.iadd, 1) := by decide +kernel
theorem dX11_notes_70 : decode cX11_notes 70 = .ok (.aload_n 0, 1) := by decide +kernel
theorem dX11_notes_71 : decode cX11_notes 71 = .ok (.getfield 20, 3) := by decide +kernel
theorem dX11_notes_74 : decode cX11_notes 74 = .ok (.iload_n 1, 1) := by decide +kernel
theorem dX11_notes_75 : decode cX11_notes 75 = .ok (.iaload, 1) := by decide +kernel
theorem dX11_notes_76 : decode cX11_notes 76 = .ok (.iastore, 1) := by decide +kernel
theorem dX11_notes_77 : decode cX11_notes 77 = .ok (.iinc 1 1, 3) := by decide +kernel
theorem dX11_notes_80 : decode cX11_notes 80 = .ok (.goto (-29), 3) := by decide +kernel
theorem dX11_notes_83 : decode cX11_notes 83 = .ok (.aload_n 0, 1) := by decide +kernel
theorem dX11_notes_84 : decode cX11_notes 84 = .ok (.dup, 1) := by decide +kernel
theorem dX11_notes_85 : decode cX11_notes 85 = .ok (.getfield 165, 3) := by decide +kernel
theorem dX11_notes_88 : decode cX11_notes 88 = .ok (.iconst 1, 1) := by decide +kernel
theorem dX11_notes_89 : decode cX11_notes 89 = .ok (.iadd, 1) := by decide +kernel
theorem dX11_notes_90 : decode cX11_notes 90 = .ok (.putfield 165, 3) := by decide +kernel
theorem dX11_notes_93 : decode cX11_notes 93 = .ok (.return_, 1) := by decide +kernel
theorem dX11_puts_0 : decode cX11_puts 0 = .ok (.aload_n 0, 1) := by decide +kernel
theorem dX11_puts_1 : decode cX11_puts 1 = .ok (.iconst 0, 1) := by decide +kernel
theorem dX11_puts_2 : decode cX11_puts 2 = .ok (.putfield 104, 3) := by decide +kernel
theorem dX11_puts_5 : decode cX11_puts 5 = .ok (.iload_n 2, 1) := by decide +kernel
theorem dX11_puts_6 : decode cX11_puts 6 = .ok (.iconst 0, 1) := by decide +kernel
theorem dX11_puts_7 : decode cX11_puts 7 = .ok (.iconst 2, 1) := by decide +kernel
theorem dX11_puts_8 : decode cX11_puts 8 = .ok (.invokestatic 122, 3) := by decide +kernel
theorem dX11_puts_11 : decode cX11_puts 11 = .ok (.ifCond .eq 61, 3) := by decide +kernel
theorem dX11_puts_14 : decode cX11_puts 14 = .ok (.iload_n 3, 1) := by decide +kernel
theorem dX11_puts_15 : decode cX11_puts 15 = .ok (.iconst 0, 1) := by decide +kernel
theorem dX11_puts_16 : decode cX11_puts 16 = .ok (.iload_n 2, 1) := by decide +kernel
theorem dX11_puts_17 : decode cX11_puts 17 = .ok (.ifCond .le 7, 3) := by decide +kernel
theorem dX11_puts_20 : decode cX11_puts 20 = .ok (.iconst 3, 1) := by decide +kernel
theorem dX11_puts_21 : decode cX11_puts 21 = .ok (.goto 4, 3) := by decide +kernel
theorem dX11_puts_24 : decode cX11_puts 24 = .ok (.iconst 0, 1) := by decide +kernel
theorem dX11_puts_25 : decode cX11_puts 25 = .ok (.invokestatic 122, 3) := by decide +kernel
theorem dX11_puts_28 : decode cX11_puts 28 = .ok (.ifCond .eq 44, 3) := by decide +kernel
theorem dX11_puts_31 : decode cX11_puts 31 = .ok (.iload 4, 2) := by decide +kernel
theorem dX11_puts_33 : decode cX11_puts 33 = .ok (.iconst 0, 1) := by decide +kernel
theorem dX11_puts_34 : decode cX11_puts 34 = .ok (.iload_n 2, 1) := by decide +kernel
theorem dX11_puts_35 : decode cX11_puts 35 = .ok (.ifCond .le 7, 3) := by decide +kernel
theorem dX11_puts_38 : decode cX11_puts 38 = .ok (.iconst 3, 1) := by decide +kernel
theorem dX11_puts_39 : decode cX11_puts 39 = .ok (.goto 4, 3) := by decide +kernel
theorem dX11_puts_42 : decode cX11_puts 42 = .ok (.iconst 0, 1) := by decide +kernel
theorem dX11_puts_43 : decode cX11_puts 43 = .ok (.invokestatic 122, 3) := by decide +kernel
theorem dX11_puts_46 : decode cX11_puts 46 = .ok (.ifCond .eq 26, 3) := by decide +kernel
theorem dX11_puts_49 : decode cX11_puts 49 = .ok (.iload 5, 2) := by decide +kernel
theorem dX11_puts_51 : decode cX11_puts 51 = .ok (.iconst 0, 1) := by decide +kernel
theorem dX11_puts_52 : decode cX11_puts 52 = .ok (.iload_n 2, 1) := by decide +kernel
theorem dX11_puts_53 : decode cX11_puts 53 = .ok (.iconst 1, 1) := by decide +kernel
theorem dX11_puts_54 : decode cX11_puts 54 = .ok (.if_icmp .le 7, 3) := by decide +kernel
theorem dX11_puts_57 : decode cX11_puts 57 = .ok (.iconst 3, 1) := by decide +kernel
theorem dX11_puts_58 : decode cX11_puts 58 = .ok (.goto 4, 3) := by decide +kernel
theorem dX11_puts_61 : decode cX11_puts 61 = .ok (.iconst 0, 1) := by decide +kernel
theorem dX11_puts_62 : decode cX11_puts 62 = .ok (.invokestatic 122, 3) := by decide +kernel
theorem dX11_puts_65 : decode cX11_puts 65 = .ok (.ifCond .eq 7, 3) := by decide +kernel
theorem dX11_puts_68 : decode cX11_puts 68 = .ok (.iconst 1, 1) := by decide +kernel
theorem dX11_puts_69 : decode cX11_puts 69 = .ok (.goto 4, 3) := by decide +kernel
theorem dX11_puts_72 : decode cX11_puts 72 = .ok (.iconst 0, 1) := by decide +kernel
theorem dX11_puts_73 : decode cX11_puts 73 = .ok (.istore 6, 2) := by decide +kernel
theorem dX11_puts_75 : decode cX11_puts 75 = .ok (.iload_n 1, 1) := by decide +kernel
theorem dX11_puts_76 : decode cX11_puts 76 = .ok (.iconst 0, 1) := by decide +kernel
theorem dX11_puts_77 : decode cX11_puts 77 = .ok (.aload_n 0, 1) := by decide +kernel
theorem dX11_puts_78 : decode cX11_puts 78 = .ok (.getfield 20, 3) := by decide +kernel
theorem dX11_puts_81 : decode cX11_puts 81 = .ok (.iconst 0, 1) := by decide +kernel
theorem dX11_puts_82 : decode cX11_puts 82 = .ok (.iaload, 1) := by decide +kernel
theorem dX11_puts_83 : decode cX11_puts 83 = .ok (.invokestatic 122, 3) := by decide +kernel
theorem dX11_puts_86 : decode cX11_puts 86 = .ok (.ifCond .eq 8, 3) := by decide +kernel
theorem dX11_puts_89 : decode cX11_puts 89 = .ok (.iload 6, 2) := by decide +kernel
theorem dX11_puts_91 : decode cX11_puts 91 = .ok (.ifCond .ne 5, 3) := by decide +kernel
theorem dX11_puts_94 : decode cX11_puts 94 = .ok (.iconst (-1), 1) := by decide +kernel
theorem dX11_puts_95 : decode cX11_puts 95 = .ok (.ireturn, 1) := by decide +kernel
theorem dX11_puts_96 : decode cX11_puts 96 = .ok (.iload_n 1, 1) := by decide +kernel
theorem dX11_puts_97 : decode cX11_puts 97 = .ok (.aload_n 0, 1) := by decide +kernel
theorem dX11_puts_98 : decode cX11_puts 98 = .ok (.getfield 20, 3) := by decide +kernel
theorem dX11_puts_101 : decode cX11_puts 101 = .ok (.iconst 0, 1) := by decide +kernel
theorem dX11_puts_102 : decode cX11_puts 102 = .ok (.iaload, 1) := by decide +kernel
theorem dX11_puts_103 : decode cX11_puts 103 = .ok (.if_icmp .ge 48, 3) := by decide +kernel
theorem dX11_puts_106 : decode cX11_puts 106 = .ok (.aload_n 0, 1) := by decide +kernel
theorem dX11_puts_107 : decode cX11_puts 107 = .ok (.iload_n 1, 1) := by decide +kernel
theorem dX11_puts_108 : decode cX11_puts 108 = .ok (.iconst 0, 1) := by decide +kernel
theorem dX11_puts_109 : decode cX11_puts 109 = .ok (.invokevirtual 189, 3) := by decide +kernel
theorem dX11_puts_112 : decode cX11_puts 112 = .ok (.iload_n 2, 1) := by decide +kernel
theorem dX11_puts_113 : decode cX11_puts 113 = .ok (.if_icmp .ne 38, 3) := by decide +kernel
theorem dX11_puts_116 : decode cX11_puts 116 = .ok (.aload_n 0, 1) := by decide +kernel
theorem dX11_puts_117 : decode cX11_puts 117 = .ok (.iload_n 1, 1) := by decide +kernel
theorem dX11_puts_118 : decode cX11_puts 118 = .ok (.iconst 1, 1) := by decide +kernel
theorem dX11_puts_119 : decode cX11_puts 119 = .ok (.invokevirtual 189, 3) := by decide +kernel
theorem dX11_puts_122 : decode cX11_puts 122 = .ok (.iload_n 3, 1) := by decide +kernel
theorem dX11_puts_123 : decode cX11_puts 123 = .ok (.if_icmp .ne 28, 3) := by decide +kernel
theorem dX11_puts_126 : decode cX11_puts 126 = .ok (.aload_n 0, 1) := by decide +kernel
theorem dX11_puts_127 : decode cX11_puts 127 = .ok (.iload_n 1, 1) := by decide +kernel
theorem dX11_puts_128 : decode cX11_puts 128 = .ok (.iconst 2, 1) := by decide +kernel
theorem dX11_puts_129 : decode cX11_puts 129 = .ok (.invokevirtual 189, 3) := by decide +kernel
theorem dX11_puts_132 : decode cX11_puts 132 = .ok (.iload 4, 2) := by decide +kernel
theorem dX11_puts_134 : decode cX11_puts 134 = .ok (.if_icmp .ne 17, 3) := by decide +kernel
theorem dX11_puts_137 : decode cX11_puts 137 = .ok (.aload_n 0, 1) := by decide +kernel
theorem dX11_puts_138 : decode cX11_puts 138 = .ok (.iload_n 1, 1) := by decide +kernel
theorem dX11_puts_139 : decode cX11_puts 139 = .ok (.iconst 3, 1) := by decide +kernel
theorem dX11_puts_140 : decode cX11_puts 140 = .ok (.invokevirtual 189, 3) := by decide +kernel
theorem dX11_puts_143 : decode cX11_puts 143 = .ok (.iload 5, 2) := by decide +kernel
theorem dX11_puts_145 : decode cX11_puts 145 = .ok (.if_icmp .ne 6, 3) := by decide +kernel
theorem dX11_puts_148 : decode cX11_puts 148 = .ok (.bipush (-2), 2) := by decide +kernel
theorem dX11_puts_150 : decode cX11_puts 150 = .ok (.ireturn, 1) := by decide +kernel
theorem dX11_puts_151 : decode cX11_puts 151 = .ok (.iload_n 1, 1) := by decide +kernel
theorem dX11_puts_152 : decode cX11_puts 152 = .ok (.bipush 6, 2) := by decide +kernel
theorem dX11_puts_154 : decode cX11_puts 154 = .ok (.if_icmp .ne 6, 3) := by decide +kernel
theorem dX11_puts_157 : decode cX11_puts 157 = .ok (.bipush (-3), 2) := by decide +kernel
theorem dX11_puts_159 : decode cX11_puts 159 = .ok (.ireturn, 1) := by decide +kernel
theorem dX11_puts_160 : decode cX11_puts 160 = .ok (.aload_n 0, 1) := by decide +kernel
theorem dX11_puts_161 : decode cX11_puts 161 = .ok (.invokevirtual 254, 3) := by decide +kernel
theorem dX11_puts_164 : decode cX11_puts 164 = .ok (.aload_n 0, 1) := by decide +kernel
theorem dX11_puts_165 : decode cX11_puts 165 = .ok (.getfield 20, 3) := by decide +kernel
theorem dX11_puts_168 : decode cX11_puts 168 = .ok (.iconst 0, 1) := by decide +kernel
theorem dX11_puts_169 : decode cX11_puts 169 = .ok (.dup2, 1) := by decide +kernel
theorem dX11_puts_170 : decode cX11_puts 170 = .ok (.iaload, 1) := by decide +kernel
theorem dX11_puts_171 : decode cX11_puts 171 = .ok (.iload_n 1, 1) := by decide +kernel
theorem dX11_puts_172 : decode cX11_puts 172 = .ok (.aload_n 0, 1) := by decide +kernel
theorem dX11_puts_173 : decode cX11_puts 173 = .ok (.getfield 20, 3) := by decide +kernel
theorem dX11_puts_176 : decode cX11_puts 176 = .ok (.iconst 0, 1) := by decide +kernel
theorem dX11_puts_177 : decode cX11_puts 177 = .ok (.iaload, 1) := by decide +kernel
theorem dX11_puts_178 : decode cX11_puts 178 = .ok (.if_icmp .ne 7, 3) := by decide +kernel
theorem dX11_puts_181 : decode cX11_puts 181 = .ok (.iconst 1, 1) := by decide +kernel
theorem dX11_puts_182 : decode cX11_puts 182 = .ok (.goto 4, 3) := by decide +kernel
theorem dX11_puts_185 : decode cX11_puts 185 = .ok (.iconst 0, 1) := by decide +kernel
theorem dX11_puts_186 : decode cX11_puts 186 = .ok (.iadd, 1) := by decide +kernel
theorem dX11_puts_187 : decode cX11_puts 187 = .ok (.iastore, 1) := by decide +kernel
theorem dX11_puts_188 : decode cX11_puts 188 = .ok (.aload_n 0, 1) := by decide +kernel
theorem dX11_puts_189 : decode cX11_puts 189 = .ok (.getfield 20, 3) := by decide +kernel
theorem dX11_puts_192 : decode cX11_puts 192 = .ok (.iconst 1, 1) := by decide +kernel
theorem dX11_puts_193 : decode cX11_puts 193 = .ok (.iconst 4, 1) := by decide +kernel
theorem dX11_puts_194 : decode cX11_puts 194 = .ok (.iload_n 1, 1) := by decide +kernel
theorem dX11_puts_195 : decode cX11_puts 195 = .ok (.imul, 1) := by decide +kernel
theorem dX11_puts_196 : decode cX11_puts 196 = .ok (.iadd, 1) := by decide +kernel
theorem dX11_puts_197 : decode cX11_puts 197 = .ok (.iload_n 2, 1) := by decide +kernel
theorem dX11_puts_198 : decode cX11_puts 198 = .ok (.iastore, 1) := by decide +kernel
theorem dX11_puts_199 : decode cX11_puts 199 = .ok (.aload_n 0, 1) := by decide +kernel
theorem dX11_puts_200 : decode cX11_puts 200 = .ok (.getfield 20, 3) := by decide +kernel
theorem dX11_puts_203 : decode cX11_puts 203 = .ok (.iconst 1, 1) := by decide +kernel
theorem dX11_puts_204 : decode cX11_puts 204 = .ok (.iconst 4, 1) := by decide +kernel
theorem dX11_puts_205 : decode cX11_puts 205 = .ok (.iload_n 1, 1) := by decide +kernel
theorem dX11_puts_206 : decode cX11_puts 206 = .ok (.imul, 1) := by decide +kernel
theorem dX11_puts_207 : decode cX11_puts 207 = .ok (.iadd, 1) := by decide +kernel
theorem dX11_puts_208 : decode cX11_puts 208 = .ok (.iconst 1, 1) := by decide +kernel
theorem dX11_puts_209 : decode cX11_puts 209 = .ok (.iadd, 1) := by decide +kernel
theorem dX11_puts_210 : decode cX11_puts 210 = .ok (.iload_n 3, 1) := by decide +kernel
theorem dX11_puts_211 : decode cX11_puts 211 = .ok (.iastore, 1) := by decide +kernel
theorem dX11_puts_212 : decode cX11_puts 212 = .ok (.aload_n 0, 1) := by decide +kernel
theorem dX11_puts_213 : decode cX11_puts 213 = .ok (.getfield 20, 3) := by decide +kernel
theorem dX11_puts_216 : decode cX11_puts 216 = .ok (.iconst 1, 1) := by decide +kernel
theorem dX11_puts_217 : decode cX11_puts 217 = .ok (.iconst 4, 1) := by decide +kernel
theorem dX11_puts_218 : decode cX11_puts 218 = .ok (.iload_n 1, 1) := by decide +kernel
theorem dX11_puts_219 : decode cX11_puts 219 = .ok (.imul, 1) := by decide +kernel
theorem dX11_puts_220 : decode cX11_puts 220 = .ok (.iadd, 1) := by decide +kernel
theorem dX11_puts_221 : decode cX11_puts 221 = .ok (.iconst 2, 1) := by decide +kernel
theorem dX11_puts_222 : decode cX11_puts 222 = .ok (.iadd, 1) := by decide +kernel
theorem dX11_puts_223 : decode cX11_puts 223 = .ok (.iload 4, 2) := by decide +kernel
theorem dX11_puts_225 : decode cX11_puts 225 = .ok (.iastore, 1) := by decide +kernel
theorem dX11_puts_226 : decode cX11_puts 226 = .ok (.aload_n 0, 1) := by decide +kernel
theorem dX11_puts_227 : decode cX11_puts 227 = .ok (.getfield 20, 3) := by decide +kernel
theorem dX11_puts_230 : decode cX11_puts 230 = .ok (.iconst 1, 1) := by decide +kernel
theorem dX11_puts_231 : decode cX11_puts 231 = .ok (.iconst 4, 1) := by decide +kernel
theorem dX11_puts_232 : decode cX11_puts 232 = .ok (.iload_n 1, 1) := by decide +kernel
theorem dX11_puts_233 : decode cX11_puts 233 = .ok (.imul, 1) := by decide +kernel
theorem dX11_puts_234 : decode cX11_puts 234 = .ok (.iadd, 1) := by decide +kernel
theorem dX11_puts_235 : decode cX11_puts 235 = .ok (.iconst 3, 1) := by decide +kernel
theorem dX11_puts_236 : decode cX11_puts 236 = .ok (.iadd, 1) := by decide +kernel
theorem dX11_puts_237 : decode cX11_puts 237 = .ok (.iload 5, 2) := by decide +kernel
theorem dX11_puts_239 : decode cX11_puts 239 = .ok (.iastore, 1) := by decide +kernel
theorem dX11_puts_240 : decode cX11_puts 240 = .ok (.aload_n 0, 1) := by decide +kernel
theorem dX11_puts_241 : decode cX11_puts 241 = .ok (.getfield 20, 3) := by decide +kernel
theorem dX11_puts_244 : decode cX11_puts 244 = .ok (.iconst 0, 1) := by decide +kernel
theorem dX11_puts_245 : decode cX11_puts 245 = .ok (.iaload, 1) := by decide +kernel
theorem dX11_puts_246 : decode cX11_puts 246 = .ok (.ireturn, 1) := by decide +kernel
theorem dX11_leaves_0 : decode cX11_leaves 0 = .ok (.aload_n 0, 1) := by decide +kernel
theorem dX11_leaves_1 : decode cX11_leaves 1 = .ok (.iconst 0, 1) := by decide +kernel
theorem dX11_leaves_2 : decode cX11_leaves 2 = .ok (.putfield 104, 3) := by decide +kernel
theorem dX11_leaves_5 : decode cX11_leaves 5 = .ok (.iload_n 1, 1) := by decide +kernel
theorem dX11_leaves_6 : decode cX11_leaves 6 = .ok (.iconst 0, 1) := by decide +kernel
theorem dX11_leaves_7 : decode cX11_leaves 7 = .ok (.aload_n 0, 1) := by decide +kernel
theorem dX11_leaves_8 : decode cX11_leaves 8 = .ok (.getfield 162, 3) := by decide +kernel
theorem dX11_leaves_11 : decode cX11_leaves 11 = .ok (.iconst 1, 1) := by decide +kernel
theorem dX11_leaves_12 : decode cX11_leaves 12 = .ok (.isub, 1) := by decide +kernel
theorem dX11_leaves_13 : decode cX11_leaves 13 = .ok (.invokestatic 122, 3) := by decide +kernel
theorem dX11_leaves_16 : decode cX11_leaves 16 = .ok (.ifCond .ne 5, 3) := by decide +kernel
theorem dX11_leaves_19 : decode cX11_leaves 19 = .ok (.iconst (-1), 1) := by decide +kernel
theorem dX11_leaves_20 : decode cX11_leaves 20 = .ok (.ireturn, 1) := by decide +kernel
theorem dX11_leaves_21 : decode cX11_leaves 21 = .ok (.aload_n 0, 1) := by decide +kernel
theorem dX11_leaves_22 : decode cX11_leaves 22 = .ok (.invokevirtual 254, 3) := by decide +kernel
theorem dX11_leaves_25 : decode cX11_leaves 25 = .ok (.aload_n 0, 1) := by decide +kernel
theorem dX11_leaves_26 : decode cX11_leaves 26 = .ok (.getfield 20, 3) := by decide +kernel
theorem dX11_leaves_29 : decode cX11_leaves 29 = .ok (.bipush 25, 2) := by decide +kernel
theorem dX11_leaves_31 : decode cX11_leaves 31 = .ok (.dup2, 1) := by decide +kernel
theorem dX11_leaves_32 : decode cX11_leaves 32 = .ok (.iaload, 1) := by decide +kernel
theorem dX11_leaves_33 : decode cX11_leaves 33 = .ok (.iconst 1, 1) := by decide +kernel
theorem dX11_leaves_34 : decode cX11_leaves 34 = .ok (.iload_n 1, 1) := by decide +kernel
theorem dX11_leaves_35 : decode cX11_leaves 35 = .ok (.ishl, 1) := by decide +kernel
theorem dX11_leaves_36 : decode cX11_leaves 36 = .ok (.ixor, 1) := by decide +kernel
theorem dX11_leaves_37 : decode cX11_leaves 37 = .ok (.iastore, 1) := by decide +kernel
theorem dX11_leaves_38 : decode cX11_leaves 38 = .ok (.aload_n 0, 1) := by decide +kernel
theorem dX11_leaves_39 : decode cX11_leaves 39 = .ok (.getfield 20, 3) := by decide +kernel
theorem dX11_leaves_42 : decode cX11_leaves 42 = .ok (.bipush 25, 2) := by decide +kernel
theorem dX11_leaves_44 : decode cX11_leaves 44 = .ok (.iaload, 1) := by decide +kernel
theorem dX11_leaves_45 : decode cX11_leaves 45 = .ok (.iload_n 1, 1) := by decide +kernel
theorem dX11_leaves_46 : decode cX11_leaves 46 = .ok (.ishr, 1) := by decide +kernel
theorem dX11_leaves_47 : decode cX11_leaves 47 = .ok (.iconst 1, 1) := by decide +kernel
theorem dX11_leaves_48 : decode cX11_leaves 48 = .ok (.iand, 1) := by decide +kernel
theorem dX11_leaves_49 : decode cX11_leaves 49 = .ok (.ireturn, 1) := by decide +kernel
theorem dX11_tells_0 : decode cX11_tells 0 = .ok (.aload_n 0, 1) := by decide +kernel
theorem dX11_tells_1 : decode cX11_tells 1 = .ok (.iconst 0, 1) := by decide +kernel
theorem dX11_tells_2 : decode cX11_tells 2 = .ok (.putfield 104, 3) := by decide +kernel
theorem dX11_tells_5 : decode cX11_tells 5 = .ok (.iload_n 1, 1) := by decide +kernel
theorem dX11_tells_6 : decode cX11_tells 6 = .ok (.iconst 0, 1) := by decide +kernel
theorem dX11_tells_7 : decode cX11_tells 7 = .ok (.iconst 3, 1) := by decide +kernel
theorem dX11_tells_8 : decode cX11_tells 8 = .ok (.invokestatic 122, 3) := by decide +kernel
theorem dX11_tells_11 : decode cX11_tells 11 = .ok (.ifCond .eq 22, 3) := by decide +kernel
theorem dX11_tells_14 : decode cX11_tells 14 = .ok (.iload_n 2, 1) := by decide +kernel
theorem dX11_tells_15 : decode cX11_tells 15 = .ok (.iconst 0, 1) := by decide +kernel
theorem dX11_tells_16 : decode cX11_tells 16 = .ok (.bipush 7, 2) := by decide +kernel
theorem dX11_tells_18 : decode cX11_tells 18 = .ok (.invokestatic 122, 3) := by decide +kernel
theorem dX11_tells_21 : decode cX11_tells 21 = .ok (.ifCond .eq 12, 3) := by decide +kernel
theorem dX11_tells_24 : decode cX11_tells 24 = .ok (.iload_n 3, 1) := by decide +kernel
theorem dX11_tells_25 : decode cX11_tells 25 = .ok (.iconst 0, 1) := by decide +kernel
theorem dX11_tells_26 : decode cX11_tells 26 = .ok (.iconst 1, 1) := by decide +kernel
theorem dX11_tells_27 : decode cX11_tells 27 = .ok (.invokestatic 122, 3) := by decide +kernel
theorem dX11_tells_30 : decode cX11_tells 30 = .ok (.ifCond .ne 5, 3) := by decide +kernel
theorem dX11_tells_33 : decode cX11_tells 33 = .ok (.iconst (-1), 1) := by decide +kernel
theorem dX11_tells_34 : decode cX11_tells 34 = .ok (.ireturn, 1) := by decide +kernel
theorem dX11_tells_35 : decode cX11_tells 35 = .ok (.aload_n 0, 1) := by decide +kernel
theorem dX11_tells_36 : decode cX11_tells 36 = .ok (.getfield 20, 3) := by decide +kernel
theorem dX11_tells_39 : decode cX11_tells 39 = .ok (.bipush 26, 2) := by decide +kernel
theorem dX11_tells_41 : decode cX11_tells 41 = .ok (.iaload, 1) := by decide +kernel
theorem dX11_tells_42 : decode cX11_tells 42 = .ok (.iload_n 1, 1) := by decide +kernel
theorem dX11_tells_43 : decode cX11_tells 43 = .ok (.if_icmp .ne 28, 3) := by decide +kernel
theorem dX11_tells_46 : decode cX11_tells 46 = .ok (.aload_n 0, 1) := by decide +kernel
theorem dX11_tells_47 : decode cX11_tells 47 = .ok (.getfield 20, 3) := by decide +kernel
theorem dX11_tells_50 : decode cX11_tells 50 = .ok (.bipush 27, 2) := by decide +kernel
theorem dX11_tells_52 : decode cX11_tells 52 = .ok (.iaload, 1) := by decide +kernel
theorem dX11_tells_53 : decode cX11_tells 53 = .ok (.iload_n 2, 1) := by decide +kernel
theorem dX11_tells_54 : decode cX11_tells 54 = .ok (.if_icmp .ne 17, 3) := by decide +kernel
theorem dX11_tells_57 : decode cX11_tells 57 = .ok (.aload_n 0, 1) := by decide +kernel
theorem dX11_tells_58 : decode cX11_tells 58 = .ok (.getfield 20, 3) := by decide +kernel
theorem dX11_tells_61 : decode cX11_tells 61 = .ok (.bipush 28, 2) := by decide +kernel
theorem dX11_tells_63 : decode cX11_tells 63 = .ok (.iaload, 1) := by decide +kernel
theorem dX11_tells_64 : decode cX11_tells 64 = .ok (.iload_n 3, 1) := by decide +kernel
theorem dX11_tells_65 : decode cX11_tells 65 = .ok (.if_icmp .ne 6, 3) := by decide +kernel
theorem dX11_tells_68 : decode cX11_tells 68 = .ok (.bipush (-2), 2) := by decide +kernel
theorem dX11_tells_70 : decode cX11_tells 70 = .ok (.ireturn, 1) := by decide +kernel
theorem dX11_tells_71 : decode cX11_tells 71 = .ok (.aload_n 0, 1) := by decide +kernel
theorem dX11_tells_72 : decode cX11_tells 72 = .ok (.invokevirtual 254, 3) := by decide +kernel
theorem dX11_tells_75 : decode cX11_tells 75 = .ok (.aload_n 0, 1) := by decide +kernel
theorem dX11_tells_76 : decode cX11_tells 76 = .ok (.getfield 20, 3) := by decide +kernel
theorem dX11_tells_79 : decode cX11_tells 79 = .ok (.bipush 26, 2) := by decide +kernel
theorem dX11_tells_81 : decode cX11_tells 81 = .ok (.iload_n 1, 1) := by decide +kernel
theorem dX11_tells_82 : decode cX11_tells 82 = .ok (.iastore, 1) := by decide +kernel
theorem dX11_tells_83 : decode cX11_tells 83 = .ok (.aload_n 0, 1) := by decide +kernel
theorem dX11_tells_84 : decode cX11_tells 84 = .ok (.getfield 20, 3) := by decide +kernel
theorem dX11_tells_87 : decode cX11_tells 87 = .ok (.bipush 27, 2) := by decide +kernel
theorem dX11_tells_89 : decode cX11_tells 89 = .ok (.iload_n 2, 1) := by decide +kernel
theorem dX11_tells_90 : decode cX11_tells 90 = .ok (.iastore, 1) := by decide +kernel
theorem dX11_tells_91 : decode cX11_tells 91 = .ok (.aload_n 0, 1) := by decide +kernel
theorem dX11_tells_92 : decode cX11_tells 92 = .ok (.getfield 20, 3) := by decide +kernel
theorem dX11_tells_95 : decode cX11_tells 95 = .ok (.bipush 28, 2) := by decide +kernel
theorem dX11_tells_97 : decode cX11_tells 97 = .ok (.iload_n 3, 1) := by decide +kernel
theorem dX11_tells_98 : decode cX11_tells 98 = .ok (.iastore, 1) := by decide +kernel
theorem dX11_tells_99 : decode cX11_tells 99 = .ok (.iconst 1, 1) := by decide +kernel
theorem dX11_tells_100 : decode cX11_tells 100 = .ok (.ireturn, 1) := by decide +kernel
theorem dX11_undo_0 : decode cX11_undo 0 = .ok (.aload_n 0, 1) := by decide +kernel
theorem dX11_undo_1 : decode cX11_undo 1 = .ok (.iconst 0, 1) := by decide +kernel
theorem dX11_undo_2 : decode cX11_undo 2 = .ok (.putfield 104, 3) := by decide +kernel
theorem dX11_undo_5 : decode cX11_undo 5 = .ok (.aload_n 0, 1) := by decide +kernel
theorem dX11_undo_6 : decode cX11_undo 6 = .ok (.getfield 165, 3) := by decide +kernel
theorem dX11_undo_9 : decode cX11_undo 9 = .ok (.ifCond .ne 6, 3) := by decide +kernel
theorem dX11_undo_12 : decode cX11_undo 12 = .ok (.bipush (-2), 2) := by decide +kernel
theorem dX11_undo_14 : decode cX11_undo 14 = .ok (.ireturn, 1) := by decide +kernel
theorem dX11_undo_15 : decode cX11_undo 15 = .ok (.aload_n 0, 1) := by decide +kernel
theorem dX11_undo_16 : decode cX11_undo 16 = .ok (.dup, 1) := by decide +kernel
theorem dX11_undo_17 : decode cX11_undo 17 = .ok (.getfield 165, 3) := by decide +kernel
theorem dX11_undo_20 : decode cX11_undo 20 = .ok (.iconst 1, 1) := by decide +kernel
theorem dX11_undo_21 : decode cX11_undo 21 = .ok (.isub, 1) := by decide +kernel
theorem dX11_undo_22 : decode cX11_undo 22 = .ok (.putfield 165, 3) := by decide +kernel
theorem dX11_undo_25 : decode cX11_undo 25 = .ok (.iconst 0, 1) := by decide +kernel
theorem dX11_undo_26 : decode cX11_undo 26 = .ok (.istore_n 1, 1) := by decide +kernel
theorem dX11_undo_27 : decode cX11_undo 27 = .ok (.iload_n 1, 1) := by decide +kernel
theorem dX11_undo_28 : decode cX11_undo 28 = .ok (.bipush 29, 2) := by decide +kernel
theorem dX11_undo_30 : decode cX11_undo 30 = .ok (.if_icmp .ge 29, 3) := by decide +kernel
theorem dX11_undo_33 : decode cX11_undo 33 = .ok (.aload_n 0, 1) := by decide +kernel
theorem dX11_undo_34 : decode cX11_undo 34 = .ok (.getfield 20, 3) := by decide +kernel
theorem dX11_undo_37 : decode cX11_undo 37 = .ok (.iload_n 1, 1) := by decide +kernel
theorem dX11_undo_38 : decode cX11_undo 38 = .ok (.aload_n 0, 1) := by decide +kernel
theorem dX11_undo_39 : decode cX11_undo 39 = .ok (.getfield 23, 3) := by decide +kernel
theorem dX11_undo_42 : decode cX11_undo 42 = .ok (.bipush 29, 2) := by decide +kernel
theorem dX11_undo_44 : decode cX11_undo 44 = .ok (.aload_n 0, 1) := by decide +kernel
theorem dX11_undo_45 : decode cX11_undo 45 = .ok (.getfield 165, 3) := by decide +kernel
theorem dX11_undo_48 : decode cX11_undo 48 = .ok (.imul, 1) := by decide +kernel
theorem dX11_undo_49 : decode cX11_undo 49 = .ok (.iload_n 1, 1) := by decide +kernel
theorem dX11_undo_50 : decode cX11_undo 50 = .ok (.iadd, 1) := by decide +kernel
theorem dX11_undo_51 : decode cX11_undo 51 = .ok (.iaload, 1) := by decide +kernel
theorem dX11_undo_52 : decode cX11_undo 52 = .ok (.iastore, 1) := by decide +kernel
theorem dX11_undo_53 : decode cX11_undo 53 = .ok (.iinc 1 1, 3) := by decide +kernel
theorem dX11_undo_56 : decode cX11_undo 56 = .ok (.goto (-29), 3) := by decide +kernel
theorem dX11_undo_59 : decode cX11_undo 59 = .ok (.aload_n 0, 1) := by decide +kernel
theorem dX11_undo_60 : decode cX11_undo 60 = .ok (.getfield 165, 3) := by decide +kernel
theorem dX11_undo_63 : decode cX11_undo 63 = .ok (.ireturn, 1) := by decide +kernel
theorem dX11_sees_0 : decode cX11_sees 0 = .ok (.aload_n 0, 1) := by decide +kernel
theorem dX11_sees_1 : decode cX11_sees 1 = .ok (.iconst 0, 1) := by decide +kernel
theorem dX11_sees_2 : decode cX11_sees 2 = .ok (.putfield 104, 3) := by decide +kernel
theorem dX11_sees_5 : decode cX11_sees 5 = .ok (.iload_n 1, 1) := by decide +kernel
theorem dX11_sees_6 : decode cX11_sees 6 = .ok (.iconst 0, 1) := by decide +kernel
theorem dX11_sees_7 : decode cX11_sees 7 = .ok (.bipush 15, 2) := by decide +kernel
theorem dX11_sees_9 : decode cX11_sees 9 = .ok (.invokestatic 122, 3) := by decide +kernel
theorem dX11_sees_12 : decode cX11_sees 12 = .ok (.ifCond .ne 5, 3) := by decide +kernel
theorem dX11_sees_15 : decode cX11_sees 15 = .ok (.iconst (-1), 1) := by decide +kernel
theorem dX11_sees_16 : decode cX11_sees 16 = .ok (.ireturn, 1) := by decide +kernel
theorem dX11_sees_17 : decode cX11_sees 17 = .ok (.aload_n 0, 1) := by decide +kernel
theorem dX11_sees_18 : decode cX11_sees 18 = .ok (.getfield 168, 3) := by decide +kernel
theorem dX11_sees_21 : decode cX11_sees 21 = .ok (.iconst 4, 1) := by decide +kernel
theorem dX11_sees_22 : decode cX11_sees 22 = .ok (.if_icmp .ne 6, 3) := by decide +kernel
theorem dX11_sees_25 : decode cX11_sees 25 = .ok (.bipush (-3), 2) := by decide +kernel
theorem dX11_sees_27 : decode cX11_sees 27 = .ok (.ireturn, 1) := by decide +kernel
theorem dX11_sees_28 : decode cX11_sees 28 = .ok (.aload_n 0, 1) := by decide +kernel
theorem dX11_sees_29 : decode cX11_sees 29 = .ok (.getfield 32, 3) := by decide +kernel
theorem dX11_sees_32 : decode cX11_sees 32 = .ok (.aload_n 0, 1) := by decide +kernel
theorem dX11_sees_33 : decode cX11_sees 33 = .ok (.getfield 168, 3) := by decide +kernel
theorem dX11_sees_36 : decode cX11_sees 36 = .ok (.iload_n 1, 1) := by decide +kernel
theorem dX11_sees_37 : decode cX11_sees 37 = .ok (.iastore, 1) := by decide +kernel
theorem dX11_sees_38 : decode cX11_sees 38 = .ok (.iconst 0, 1) := by decide +kernel
theorem dX11_sees_39 : decode cX11_sees 39 = .ok (.istore_n 2, 1) := by decide +kernel
theorem dX11_sees_40 : decode cX11_sees 40 = .ok (.iload_n 2, 1) := by decide +kernel
theorem dX11_sees_41 : decode cX11_sees 41 = .ok (.bipush 29, 2) := by decide +kernel
theorem dX11_sees_43 : decode cX11_sees 43 = .ok (.if_icmp .ge 29, 3) := by decide +kernel
