theorem dX10_undo_0 : decode cX10_undo 0 = .ok (.aload_n 0, 1) := by decide +kernel
theorem dX10_undo_1 : decode cX10_undo 1 = .ok (.getfield 26, 3) := by decide +kernel
theorem dX10_undo_4 : decode cX10_undo 4 = .ok (.getfield 171, 3) := by decide +kernel
theorem dX10_undo_7 : decode cX10_undo 7 = .ok (.ifCond .gt 6, 3) := by decide +kernel
theorem dX10_undo_10 : decode cX10_undo 10 = .ok (.bipush (-2), 2) := by decide +kernel
theorem dX10_undo_12 : decode cX10_undo 12 = .ok (.ireturn, 1) := by decide +kernel
theorem dX10_undo_13 : decode cX10_undo 13 = .ok (.aload_n 0, 1) := by decide +kernel
theorem dX10_undo_14 : decode cX10_undo 14 = .ok (.getfield 26, 3) := by decide +kernel
theorem dX10_undo_17 : decode cX10_undo 17 = .ok (.aload_n 0, 1) := by decide +kernel
theorem dX10_undo_18 : decode cX10_undo 18 = .ok (.getfield 19, 3) := by decide +kernel
theorem dX10_undo_21 : decode cX10_undo 21 = .ok (.invokevirtual 172, 3) := by decide +kernel
theorem dX10_undo_24 : decode cX10_undo 24 = .ok (.aload_n 0, 1) := by decide +kernel
theorem dX10_undo_25 : decode cX10_undo 25 = .ok (.getfield 26, 3) := by decide +kernel
theorem dX10_undo_28 : decode cX10_undo 28 = .ok (.getfield 171, 3) := by decide +kernel
theorem dX10_undo_31 : decode cX10_undo 31 = .ok (.ireturn, 1) := by decide +kernel
theorem dX10_fact_0 : decode cX10_fact 0 = .ok (.aload_n 0, 1) := by decide +kernel
theorem dX10_fact_1 : decode cX10_fact 1 = .ok (.getfield 69, 3) := by decide +kernel
theorem dX10_fact_4 : decode cX10_fact 4 = .ok (.iload_n 1, 1) := by decide +kernel
theorem dX10_fact_5 : decode cX10_fact 5 = .ok (.invokevirtual 157, 3) := by decide +kernel
theorem dX10_fact_8 : decode cX10_fact 8 = .ok (.ifCond .ne 5, 3) := by decide +kernel
theorem dX10_fact_11 : decode cX10_fact 11 = .ok (.iconst (-1), 1) := by decide +kernel
theorem dX10_fact_12 : decode cX10_fact 12 = .ok (.ireturn, 1) := by decide +kernel
theorem dX10_fact_13 : decode cX10_fact 13 = .ok (.aload_n 0, 1) := by decide +kernel
theorem dX10_fact_14 : decode cX10_fact 14 = .ok (.getfield 69, 3) := by decide +kernel
theorem dX10_fact_17 : decode cX10_fact 17 = .ok (.getfield 175, 3) := by decide +kernel
theorem dX10_fact_20 : decode cX10_fact 20 = .ok (.invokevirtual 179, 3) := by decide +kernel
theorem dX10_fact_23 : decode cX10_fact 23 = .ok (.aload_n 0, 1) := by decide +kernel
theorem dX10_fact_24 : decode cX10_fact 24 = .ok (.aload_n 0, 1) := by decide +kernel
theorem dX10_fact_25 : decode cX10_fact 25 = .ok (.getfield 69, 3) := by decide +kernel
theorem dX10_fact_28 : decode cX10_fact 28 = .ok (.iload_n 1, 1) := by decide +kernel
theorem dX10_fact_29 : decode cX10_fact 29 = .ok (.invokevirtual 184, 3) := by decide +kernel
theorem dX10_fact_32 : decode cX10_fact 32 = .ok (.aload_n 0, 1) := by decide +kernel
theorem dX10_fact_33 : decode cX10_fact 33 = .ok (.getfield 69, 3) := by decide +kernel
theorem dX10_fact_36 : decode cX10_fact 36 = .ok (.iload_n 1, 1) := by decide +kernel
theorem dX10_fact_37 : decode cX10_fact 37 = .ok (.invokevirtual 185, 3) := by decide +kernel
theorem dX10_fact_40 : decode cX10_fact 40 = .ok (.invokevirtual 186, 3) := by decide +kernel
theorem dX10_fact_43 : decode cX10_fact 43 = .ok (.ireturn, 1) := by decide +kernel
theorem dX10_judge_0 : decode cX10_judge 0 = .ok (.aload_n 0, 1) := by decide +kernel
theorem dX10_judge_1 : decode cX10_judge 1 = .ok (.getfield 48, 3) := by decide +kernel
theorem dX10_judge_4 : decode cX10_judge 4 = .ok (.aload_n 0, 1) := by decide +kernel
theorem dX10_judge_5 : decode cX10_judge 5 = .ok (.getfield 69, 3) := by decide +kernel
theorem dX10_judge_8 : decode cX10_judge 8 = .ok (.aload_n 0, 1) := by decide +kernel
theorem dX10_judge_9 : decode cX10_judge 9 = .ok (.getfield 19, 3) := by decide +kernel
theorem dX10_judge_12 : decode cX10_judge 12 = .ok (.getfield 158, 3) := by decide +kernel
theorem dX10_judge_15 : decode cX10_judge 15 = .ok (.invokevirtual 190, 3) := by decide +kernel
theorem dX10_judge_18 : decode cX10_judge 18 = .ok (.aload_n 0, 1) := by decide +kernel
theorem dX10_judge_19 : decode cX10_judge 19 = .ok (.getfield 48, 3) := by decide +kernel
theorem dX10_judge_22 : decode cX10_judge 22 = .ok (.iload_n 1, 1) := by decide +kernel
theorem dX10_judge_23 : decode cX10_judge 23 = .ok (.iload_n 2, 1) := by decide +kernel
theorem dX10_judge_24 : decode cX10_judge 24 = .ok (.invokevirtual 194, 3) := by decide +kernel
theorem dX10_judge_27 : decode cX10_judge 27 = .ok (.ifCond .ne 24, 3) := by decide +kernel
theorem dX10_judge_30 : decode cX10_judge 30 = .ok (.aload_n 0, 1) := by decide +kernel
theorem dX10_judge_31 : decode cX10_judge 31 = .ok (.getfield 48, 3) := by decide +kernel
theorem dX10_judge_34 : decode cX10_judge 34 = .ok (.aload_n 0, 1) := by decide +kernel
theorem dX10_judge_35 : decode cX10_judge 35 = .ok (.getfield 69, 3) := by decide +kernel
theorem dX10_judge_38 : decode cX10_judge 38 = .ok (.aload_n 0, 1) := by decide +kernel
theorem dX10_judge_39 : decode cX10_judge 39 = .ok (.getfield 19, 3) := by decide +kernel
theorem dX10_judge_42 : decode cX10_judge 42 = .ok (.getfield 158, 3) := by decide +kernel
theorem dX10_judge_45 : decode cX10_judge 45 = .ok (.invokevirtual 198, 3) := by decide +kernel
theorem dX10_judge_48 : decode cX10_judge 48 = .ok (.ifCond .eq 5, 3) := by decide +kernel
theorem dX10_judge_51 : decode cX10_judge 51 = .ok (.iconst 1, 1) := by decide +kernel
theorem dX10_judge_52 : decode cX10_judge 52 = .ok (.ireturn, 1) := by decide +kernel
theorem dX10_judge_53 : decode cX10_judge 53 = .ok (.aload_n 0, 1) := by decide +kernel
theorem dX10_judge_54 : decode cX10_judge 54 = .ok (.getfield 48, 3) := by decide +kernel
theorem dX10_judge_57 : decode cX10_judge 57 = .ok (.aload_n 0, 1) := by decide +kernel
theorem dX10_judge_58 : decode cX10_judge 58 = .ok (.getfield 69, 3) := by decide +kernel
theorem dX10_judge_61 : decode cX10_judge 61 = .ok (.iload_n 1, 1) := by decide +kernel
theorem dX10_judge_62 : decode cX10_judge 62 = .ok (.iload_n 2, 1) := by decide +kernel
theorem dX10_judge_63 : decode cX10_judge 63 = .ok (.invokevirtual 202, 3) := by decide +kernel
theorem dX10_judge_66 : decode cX10_judge 66 = .ok (.aload_n 0, 1) := by decide +kernel
theorem dX10_judge_67 : decode cX10_judge 67 = .ok (.getfield 48, 3) := by decide +kernel
theorem dX10_judge_70 : decode cX10_judge 70 = .ok (.aload_n 0, 1) := by decide +kernel
theorem dX10_judge_71 : decode cX10_judge 71 = .ok (.getfield 69, 3) := by decide +kernel
theorem dX10_judge_74 : decode cX10_judge 74 = .ok (.aload_n 0, 1) := by decide +kernel
theorem dX10_judge_75 : decode cX10_judge 75 = .ok (.getfield 19, 3) := by decide +kernel
theorem dX10_judge_78 : decode cX10_judge 78 = .ok (.getfield 158, 3) := by decide +kernel
theorem dX10_judge_81 : decode cX10_judge 81 = .ok (.invokevirtual 198, 3) := by decide +kernel
theorem dX10_judge_84 : decode cX10_judge 84 = .ok (.ifCond .eq 7, 3) := by decide +kernel
theorem dX10_judge_87 : decode cX10_judge 87 = .ok (.iconst 2, 1) := by decide +kernel
theorem dX10_judge_88 : decode cX10_judge 88 = .ok (.goto 4, 3) := by decide +kernel
theorem dX10_judge_91 : decode cX10_judge 91 = .ok (.iconst 0, 1) := by decide +kernel
theorem dX10_judge_92 : decode cX10_judge 92 = .ok (.ireturn, 1) := by decide +kernel
theorem dX10_ruled_0 : decode cX10_ruled 0 = .ok (.aload_n 0, 1) := by decide +kernel
theorem dX10_ruled_1 : decode cX10_ruled 1 = .ok (.getfield 69, 3) := by decide +kernel
theorem dX10_ruled_4 : decode cX10_ruled 4 = .ok (.getfield 175, 3) := by decide +kernel
theorem dX10_ruled_7 : decode cX10_ruled 7 = .ok (.invokevirtual 179, 3) := by decide +kernel
theorem dX10_ruled_10 : decode cX10_ruled 10 = .ok (.aload_n 0, 1) := by decide +kernel
theorem dX10_ruled_11 : decode cX10_ruled 11 = .ok (.getfield 48, 3) := by decide +kernel
theorem dX10_ruled_14 : decode cX10_ruled 14 = .ok (.aload_n 0, 1) := by decide +kernel
theorem dX10_ruled_15 : decode cX10_ruled 15 = .ok (.getfield 69, 3) := by decide +kernel
theorem dX10_ruled_18 : decode cX10_ruled 18 = .ok (.aload_n 0, 1) := by decide +kernel
theorem dX10_ruled_19 : decode cX10_ruled 19 = .ok (.getfield 19, 3) := by decide +kernel
theorem dX10_ruled_22 : decode cX10_ruled 22 = .ok (.getfield 158, 3) := by decide +kernel
theorem dX10_ruled_25 : decode cX10_ruled 25 = .ok (.invokevirtual 190, 3) := by decide +kernel
theorem dX10_ruled_28 : decode cX10_ruled 28 = .ok (.aload_n 0, 1) := by decide +kernel
theorem dX10_ruled_29 : decode cX10_ruled 29 = .ok (.getfield 48, 3) := by decide +kernel
theorem dX10_ruled_32 : decode cX10_ruled 32 = .ok (.aload_n 0, 1) := by decide +kernel
theorem dX10_ruled_33 : decode cX10_ruled 33 = .ok (.getfield 69, 3) := by decide +kernel
theorem dX10_ruled_36 : decode cX10_ruled 36 = .ok (.aload_n 0, 1) := by decide +kernel
theorem dX10_ruled_37 : decode cX10_ruled 37 = .ok (.getfield 19, 3) := by decide +kernel
theorem dX10_ruled_40 : decode cX10_ruled 40 = .ok (.getfield 158, 3) := by decide +kernel
theorem dX10_ruled_43 : decode cX10_ruled 43 = .ok (.invokevirtual 198, 3) := by decide +kernel
theorem dX10_ruled_46 : decode cX10_ruled 46 = .ok (.ifCond .eq 7, 3) := by decide +kernel
theorem dX10_ruled_49 : decode cX10_ruled 49 = .ok (.iconst 1, 1) := by decide +kernel
theorem dX10_ruled_50 : decode cX10_ruled 50 = .ok (.goto 4, 3) := by decide +kernel
theorem dX10_ruled_53 : decode cX10_ruled 53 = .ok (.iconst 0, 1) := by decide +kernel
theorem dX10_ruled_54 : decode cX10_ruled 54 = .ok (.ireturn, 1) := by decide +kernel
theorem dX10_equal_0 : decode cX10_equal 0 = .ok (.iload_n 1, 1) := by decide +kernel
theorem dX10_equal_1 : decode cX10_equal 1 = .ok (.invokestatic 154, 3) := by decide +kernel
theorem dX10_equal_4 : decode cX10_equal 4 = .ok (.ifCond .eq 19, 3) := by decide +kernel
theorem dX10_equal_7 : decode cX10_equal 7 = .ok (.iload_n 2, 1) := by decide +kernel
theorem dX10_equal_8 : decode cX10_equal 8 = .ok (.invokestatic 154, 3) := by decide +kernel
theorem dX10_equal_11 : decode cX10_equal 11 = .ok (.ifCond .eq 12, 3) := by decide +kernel
theorem dX10_equal_14 : decode cX10_equal 14 = .ok (.iload_n 3, 1) := by decide +kernel
theorem dX10_equal_15 : decode cX10_equal 15 = .ok (.ifCond .lt 8, 3) := by decide +kernel
theorem dX10_equal_18 : decode cX10_equal 18 = .ok (.iload_n 3, 1) := by decide +kernel
theorem dX10_equal_19 : decode cX10_equal 19 = .ok (.iconst 2, 1) := by decide +kernel
theorem dX10_equal_20 : decode cX10_equal 20 = .ok (.if_icmp .le 5, 3) := by decide +kernel
theorem dX10_equal_23 : decode cX10_equal 23 = .ok (.iconst (-1), 1) := by decide +kernel
theorem dX10_equal_24 : decode cX10_equal 24 = .ok (.ireturn, 1) := by decide +kernel
theorem dX10_equal_25 : decode cX10_equal 25 = .ok (.aload_n 0, 1) := by decide +kernel
theorem dX10_equal_26 : decode cX10_equal 26 = .ok (.aload_n 0, 1) := by decide +kernel
theorem dX10_equal_27 : decode cX10_equal 27 = .ok (.getfield 19, 3) := by decide +kernel
theorem dX10_equal_30 : decode cX10_equal 30 = .ok (.getfield 161, 3) := by decide +kernel
theorem dX10_equal_33 : decode cX10_equal 33 = .ok (.invokevirtual 206, 3) := by decide +kernel
theorem dX10_equal_36 : decode cX10_equal 36 = .ok (.aload_n 0, 1) := by decide +kernel
theorem dX10_equal_37 : decode cX10_equal 37 = .ok (.aload_n 0, 1) := by decide +kernel
theorem dX10_equal_38 : decode cX10_equal 38 = .ok (.getfield 41, 3) := by decide +kernel
theorem dX10_equal_41 : decode cX10_equal 41 = .ok (.iload_n 1, 1) := by decide +kernel
theorem dX10_equal_42 : decode cX10_equal 42 = .ok (.iload_n 3, 1) := by decide +kernel
theorem dX10_equal_43 : decode cX10_equal 43 = .ok (.iconst 1, 1) := by decide +kernel
theorem dX10_equal_44 : decode cX10_equal 44 = .ok (.if_icmp .ne 7, 3) := by decide +kernel
theorem dX10_equal_47 : decode cX10_equal 47 = .ok (.iconst 1, 1) := by decide +kernel
theorem dX10_equal_48 : decode cX10_equal 48 = .ok (.goto 4, 3) := by decide +kernel
theorem dX10_equal_51 : decode cX10_equal 51 = .ok (.iconst 0, 1) := by decide +kernel
theorem dX10_equal_52 : decode cX10_equal 52 = .ok (.invokevirtual 210, 3) := by decide +kernel
theorem dX10_equal_55 : decode cX10_equal 55 = .ok (.aload_n 0, 1) := by decide +kernel
theorem dX10_equal_56 : decode cX10_equal 56 = .ok (.getfield 41, 3) := by decide +kernel
theorem dX10_equal_59 : decode cX10_equal 59 = .ok (.iload_n 2, 1) := by decide +kernel
theorem dX10_equal_60 : decode cX10_equal 60 = .ok (.iload_n 3, 1) := by decide +kernel
theorem dX10_equal_61 : decode cX10_equal 61 = .ok (.ifCond .eq 7, 3) := by decide +kernel
theorem dX10_equal_64 : decode cX10_equal 64 = .ok (.iconst 1, 1) := by decide +kernel
theorem dX10_equal_65 : decode cX10_equal 65 = .ok (.goto 4, 3) := by decide +kernel
theorem dX10_equal_68 : decode cX10_equal 68 = .ok (.iconst 0, 1) := by decide +kernel
theorem dX10_equal_69 : decode cX10_equal 69 = .ok (.invokevirtual 210, 3) := by decide +kernel
theorem dX10_equal_72 : decode cX10_equal 72 = .ok (.invokevirtual 186, 3) := by decide +kernel
theorem dX10_equal_75 : decode cX10_equal 75 = .ok (.ireturn, 1) := by decide +kernel
theorem dX10_goThrough_0 : decode cX10_goThrough 0 = .ok (.aload_n 0, 1) := by decide +kernel
theorem dX10_goThrough_1 : decode cX10_goThrough 1 = .ok (.getfield 69, 3) := by decide +kernel
theorem dX10_goThrough_4 : decode cX10_goThrough 4 = .ok (.getfield 175, 3) := by decide +kernel
theorem dX10_goThrough_7 : decode cX10_goThrough 7 = .ok (.invokevirtual 179, 3) := by decide +kernel
theorem dX10_goThrough_10 : decode cX10_goThrough 10 = .ok (.aload_n 0, 1) := by decide +kernel
theorem dX10_goThrough_11 : decode cX10_goThrough 11 = .ok (.getfield 41, 3) := by decide +kernel
theorem dX10_goThrough_14 : decode cX10_goThrough 14 = .ok (.aload_n 0, 1) := by decide +kernel
theorem dX10_goThrough_15 : decode cX10_goThrough 15 = .ok (.getfield 19, 3) := by decide +kernel
theorem dX10_goThrough_18 : decode cX10_goThrough 18 = .ok (.getfield 111, 3) := by decide +kernel
theorem dX10_goThrough_21 : decode cX10_goThrough 21 = .ok (.aload_n 0, 1) := by decide +kernel
theorem dX10_goThrough_22 : decode cX10_goThrough 22 = .ok (.getfield 69, 3) := by decide +kernel
theorem dX10_goThrough_25 : decode cX10_goThrough 25 = .ok (.getfield 175, 3) := by decide +kernel
theorem dX10_goThrough_28 : decode cX10_goThrough 28 = .ok (.invokevirtual 214, 3) := by decide +kernel
theorem dX10_goThrough_31 : decode cX10_goThrough 31 = .ok (.aload_n 0, 1) := by decide +kernel
theorem dX10_goThrough_32 : decode cX10_goThrough 32 = .ok (.getfield 41, 3) := by decide +kernel
theorem dX10_goThrough_35 : decode cX10_goThrough 35 = .ok (.aload_n 0, 1) := by decide +kernel
theorem dX10_goThrough_36 : decode cX10_goThrough 36 = .ok (.getfield 19, 3) := by decide +kernel
theorem dX10_goThrough_39 : decode cX10_goThrough 39 = .ok (.getfield 111, 3) := by decide +kernel
theorem dX10_goThrough_42 : decode cX10_goThrough 42 = .ok (.aload_n 1, 1) := by decide +kernel
theorem dX10_goThrough_43 : decode cX10_goThrough 43 = .ok (.aload_n 0, 1) := by decide +kernel
theorem dX10_goThrough_44 : decode cX10_goThrough 44 = .ok (.getfield 69, 3) := by decide +kernel
theorem dX10_goThrough_47 : decode cX10_goThrough 47 = .ok (.getfield 175, 3) := by decide +kernel
theorem dX10_goThrough_50 : decode cX10_goThrough 50 = .ok (.invokevirtual 218, 3) := by decide +kernel
theorem dX10_goThrough_53 : decode cX10_goThrough 53 = .ok (.return_, 1) := by decide +kernel
theorem dX10_deep_0 : decode cX10_deep 0 = .ok (.iload_n 1, 1) := by decide +kernel
theorem dX10_deep_1 : decode cX10_deep 1 = .ok (.invokestatic 154, 3) := by decide +kernel
theorem dX10_deep_4 : decode cX10_deep 4 = .ok (.ifCond .eq 12, 3) := by decide +kernel
theorem dX10_deep_7 : decode cX10_deep 7 = .ok (.iload_n 2, 1) := by decide +kernel
theorem dX10_deep_8 : decode cX10_deep 8 = .ok (.ifCond .lt 8, 3) := by decide +kernel
theorem dX10_deep_11 : decode cX10_deep 11 = .ok (.iload_n 2, 1) := by decide +kernel
theorem dX10_deep_12 : decode cX10_deep 12 = .ok (.iconst 1, 1) := by decide +kernel
theorem dX10_deep_13 : decode cX10_deep 13 = .ok (.if_icmp .le 5, 3) := by decide +kernel
theorem dX10_deep_16 : decode cX10_deep 16 = .ok (.iconst (-1), 1) := by decide +kernel
theorem dX10_deep_17 : decode cX10_deep 17 = .ok (.ireturn, 1) := by decide +kernel
theorem dX10_deep_18 : decode cX10_deep 18 = .ok (.aload_n 0, 1) := by decide +kernel
theorem dX10_deep_19 : decode cX10_deep 19 = .ok (.aload_n 0, 1) := by decide +kernel
theorem dX10_deep_20 : decode cX10_deep 20 = .ok (.getfield 19, 3) := by decide +kernel
theorem dX10_deep_23 : decode cX10_deep 23 = .ok (.getfield 161, 3) := by decide +kernel
theorem dX10_deep_26 : decode cX10_deep 26 = .ok (.invokevirtual 206, 3) := by decide +kernel
theorem dX10_deep_29 : decode cX10_deep 29 = .ok (.aload_n 0, 1) := by decide +kernel
theorem dX10_deep_30 : decode cX10_deep 30 = .ok (.getfield 69, 3) := by decide +kernel
theorem dX10_deep_33 : decode cX10_deep 33 = .ok (.getfield 175, 3) := by decide +kernel
theorem dX10_deep_36 : decode cX10_deep 36 = .ok (.aload_n 0, 1) := by decide +kernel
theorem dX10_deep_37 : decode cX10_deep 37 = .ok (.getfield 41, 3) := by decide +kernel
theorem dX10_deep_40 : decode cX10_deep 40 = .ok (.iload_n 1, 1) := by decide +kernel
theorem dX10_deep_41 : decode cX10_deep 41 = .ok (.iload_n 2, 1) := by decide +kernel
theorem dX10_deep_42 : decode cX10_deep 42 = .ok (.iconst 1, 1) := by decide +kernel
theorem dX10_deep_43 : decode cX10_deep 43 = .ok (.if_icmp .ne 7, 3) := by decide +kernel
theorem dX10_deep_46 : decode cX10_deep 46 = .ok (.iconst 1, 1) := by decide +kernel
theorem dX10_deep_47 : decode cX10_deep 47 = .ok (.goto 4, 3) := by decide +kernel
theorem dX10_deep_50 : decode cX10_deep 50 = .ok (.iconst 0, 1) := by decide +kernel
theorem dX10_deep_51 : decode cX10_deep 51 = .ok (.invokevirtual 210, 3) := by decide +kernel
theorem dX10_deep_54 : decode cX10_deep 54 = .ok (.invokevirtual 222, 3) := by decide +kernel
theorem dX10_deep_57 : decode cX10_deep 57 = .ok (.ireturn, 1) := by decide +kernel
theorem dX10_term_0 : decode cX10_term 0 = .ok (.iload_n 1, 1) := by decide +kernel
theorem dX10_term_1 : decode cX10_term 1 = .ok (.invokestatic 154, 3) := by decide +kernel
theorem dX10_term_4 : decode cX10_term 4 = .ok (.ifCond .eq 16, 3) := by decide +kernel
theorem dX10_term_7 : decode cX10_term 7 = .ok (.iload_n 2, 1) := by decide +kernel
theorem dX10_term_8 : decode cX10_term 8 = .ok (.ifCond .lt 12, 3) := by decide +kernel
theorem dX10_term_11 : decode cX10_term 11 = .ok (.iload_n 2, 1) := by decide +kernel
theorem dX10_term_12 : decode cX10_term 12 = .ok (.iconst 1, 1) := by decide +kernel
theorem dX10_term_13 : decode cX10_term 13 = .ok (.if_icmp .gt 7, 3) := by decide +kernel
theorem dX10_term_16 : decode cX10_term 16 = .ok (.iload_n 3, 1) := by decide +kernel
theorem dX10_term_17 : decode cX10_term 17 = .ok (.ifCond .ge 5, 3) := by decide +kernel
theorem dX10_term_20 : decode cX10_term 20 = .ok (.iconst (-1), 1) := by decide +kernel
theorem dX10_term_21 : decode cX10_term 21 = .ok (.ireturn, 1) := by decide +kernel
theorem dX10_term_22 : decode cX10_term 22 = .ok (.aload_n 0, 1) := by decide +kernel
theorem dX10_term_23 : decode cX10_term 23 = .ok (.aload_n 0, 1) := by decide +kernel
theorem dX10_term_24 : decode cX10_term 24 = .ok (.getfield 19, 3) := by decide +kernel
theorem dX10_term_27 : decode cX10_term 27 = .ok (.getfield 161, 3) := by decide +kernel
theorem dX10_term_30 : decode cX10_term 30 = .ok (.invokevirtual 206, 3) := by decide +kernel
theorem dX10_term_33 : decode cX10_term 33 = .ok (.aload_n 0, 1) := by decide +kernel
theorem dX10_term_34 : decode cX10_term 34 = .ok (.getfield 69, 3) := by decide +kernel
theorem dX10_term_37 : decode cX10_term 37 = .ok (.getfield 175, 3) := by decide +kernel
theorem dX10_term_40 : decode cX10_term 40 = .ok (.aload_n 0, 1) := by decide +kernel
theorem dX10_term_41 : decode cX10_term 41 = .ok (.getfield 41, 3) := by decide +kernel
theorem dX10_term_44 : decode cX10_term 44 = .ok (.iload_n 1, 1) := by decide +kernel
theorem dX10_term_45 : decode cX10_term 45 = .ok (.iload_n 2, 1) := by decide +kernel
theorem dX10_term_46 : decode cX10_term 46 = .ok (.iconst 1, 1) := by decide +kernel
theorem dX10_term_47 : decode cX10_term 47 = .ok (.if_icmp .ne 7, 3) := by decide +kernel
theorem dX10_term_50 : decode cX10_term 50 = .ok (.iconst 1, 1) := by decide +kernel
theorem dX10_term_51 : decode cX10_term 51 = .ok (.goto 4, 3) := by decide +kernel
theorem dX10_term_54 : decode cX10_term 54 = .ok (.iconst 0, 1) := by decide +kernel
theorem dX10_term_55 : decode cX10_term 55 = .ok (.invokevirtual 210, 3) := by decide +kernel
theorem dX10_term_58 : decode cX10_term 58 = .ok (.iload_n 3, 1) := by decide +kernel
theorem dX10_term_59 : decode cX10_term 59 = .ok (.invokevirtual 225, 3) := by decide +kernel
theorem dX10_term_62 : decode cX10_term 62 = .ok (.ireturn, 1) := by decide +kernel
theorem dX10_step_0 : decode cX10_step 0 = .ok (.aload_n 0, 1) := by decide +kernel
theorem dX10_step_1 : decode cX10_step 1 = .ok (.getfield 19, 3) := by decide +kernel
theorem dX10_step_4 : decode cX10_step 4 = .ok (.getfield 111, 3) := by decide +kernel
theorem dX10_step_7 : decode cX10_step 7 = .ok (.iload_n 1, 1) := by decide +kernel
theorem dX10_step_8 : decode cX10_step 8 = .ok (.invokevirtual 115, 3) := by decide +kernel
theorem dX10_step_11 : decode cX10_step 11 = .ok (.ifCond .ne 5, 3) := by decide +kernel
theorem dX10_step_14 : decode cX10_step 14 = .ok (.iconst (-1), 1) := by decide +kernel
theorem dX10_step_15 : decode cX10_step 15 = .ok (.ireturn, 1) := by decide +kernel
theorem dX10_step_16 : decode cX10_step 16 = .ok (.aload_n 0, 1) := by decide +kernel
theorem dX10_step_17 : decode cX10_step 17 = .ok (.aload_n 0, 1) := by decide +kernel
theorem dX10_step_18 : decode cX10_step 18 = .ok (.getfield 19, 3) := by decide +kernel
theorem dX10_step_21 : decode cX10_step 21 = .ok (.getfield 161, 3) := by decide +kernel
theorem dX10_step_24 : decode cX10_step 24 = .ok (.invokevirtual 206, 3) := by decide +kernel
theorem dX10_step_27 : decode cX10_step 27 = .ok (.aload_n 0, 1) := by decide +kernel
theorem dX10_step_28 : decode cX10_step 28 = .ok (.getfield 41, 3) := by decide +kernel
theorem dX10_step_31 : decode cX10_step 31 = .ok (.iload_n 1, 1) := by decide +kernel
theorem dX10_step_32 : decode cX10_step 32 = .ok (.invokevirtual 228, 3) := by decide +kernel
theorem dX10_step_35 : decode cX10_step 35 = .ok (.ireturn, 1) := by decide +kernel
theorem dX10_length_0 : decode cX10_length 0 = .ok (.aload_n 0, 1) := by decide +kernel
theorem dX10_length_1 : decode cX10_length 1 = .ok (.getfield 19, 3) := by decide +kernel
theorem dX10_length_4 : decode cX10_length 4 = .ok (.getfield 111, 3) := by decide +kernel
theorem dX10_length_7 : decode cX10_length 7 = .ok (.getfield 137, 3) := by decide +kernel
theorem dX10_length_10 : decode cX10_length 10 = .ok (.ifCond .ne 5, 3) := by decide +kernel
theorem dX10_length_13 : decode cX10_length 13 = .ok (.iconst 0, 1) := by decide +kernel
theorem dX10_length_14 : decode cX10_length 14 = .ok (.ireturn, 1) := by decide +kernel
theorem dX10_length_15 : decode cX10_length 15 = .ok (.aload_n 0, 1) := by decide +kernel
theorem dX10_length_16 : decode cX10_length 16 = .ok (.aload_n 0, 1) := by decide +kernel
theorem dX10_length_17 : decode cX10_length 17 = .ok (.getfield 19, 3) := by decide +kernel
theorem dX10_length_20 : decode cX10_length 20 = .ok (.getfield 161, 3) := by decide +kernel
theorem dX10_length_23 : decode cX10_length 23 = .ok (.invokevirtual 206, 3) := by decide +kernel
theorem dX10_length_26 : decode cX10_length 26 = .ok (.aload_n 0, 1) := by decide +kernel
theorem dX10_length_27 : decode cX10_length 27 = .ok (.getfield 41, 3) := by decide +kernel
theorem dX10_length_30 : decode cX10_length 30 = .ok (.aload_n 0, 1) := by decide +kernel
theorem dX10_length_31 : decode cX10_length 31 = .ok (.getfield 19, 3) := by decide +kernel
theorem dX10_length_34 : decode cX10_length 34 = .ok (.getfield 111, 3) := by decide +kernel
theorem dX10_length_37 : decode cX10_length 37 = .ok (.getfield 137, 3) := by decide +kernel
theorem dX10_length_40 : decode cX10_length 40 = .ok (.iconst 1, 1) := by decide +kernel
theorem dX10_length_41 : decode cX10_length 41 = .ok (.isub, 1) := by decide +kernel
theorem dX10_length_42 : decode cX10_length 42 = .ok (.invokevirtual 228, 3) := by decide +kernel
theorem dX10_length_45 : decode cX10_length 45 = .ok (.iconst 1, 1) := by decide +kernel
theorem dX10_length_46 : decode cX10_length 46 = .ok (.iadd, 1) := by decide +kernel
theorem dX10_length_47 : decode cX10_length 47 = .ok (.aload_n 0, 1) := by decide +kernel
theorem dX10_length_48 : decode cX10_length 48 = .ok (.getfield 19, 3) := by decide +kernel
theorem dX10_length_51 : decode cX10_length 51 = .ok (.getfield 161, 3) := by decide +kernel
theorem dX10_length_54 : decode cX10_length 54 = .ok (.getfield 231, 3) := by decide +kernel
theorem dX10_length_57 : decode cX10_length 57 = .ok (.iadd, 1) := by decide +kernel
theorem dX10_length_58 : decode cX10_length 58 = .ok (.ireturn, 1) := by decide +kernel
theorem dX10_wrong_0 : decode cX10_wrong 0 = .ok (.aload_n 0, 1) := by decide +kernel
theorem dX10_wrong_1 : decode cX10_wrong 1 = .ok (.aload_n 0, 1) := by decide +kernel
theorem dX10_wrong_2 : decode cX10_wrong 2 = .ok (.getfield 19, 3) := by decide +kernel
theorem dX10_wrong_5 : decode cX10_wrong 5 = .ok (.getfield 161, 3) := by decide +kernel
theorem dX10_wrong_8 : decode cX10_wrong 8 = .ok (.invokevirtual 206, 3) := by decide +kernel
theorem dX10_wrong_11 : decode cX10_wrong 11 = .ok (.aload_n 0, 1) := by decide +kernel
theorem dX10_wrong_12 : decode cX10_wrong 12 = .ok (.aload_n 0, 1) := by decide +kernel
theorem dX10_wrong_13 : decode cX10_wrong 13 = .ok (.getfield 19, 3) := by decide +kernel
theorem dX10_wrong_16 : decode cX10_wrong 16 = .ok (.getfield 158, 3) := by decide +kernel
theorem dX10_wrong_19 : decode cX10_wrong 19 = .ok (.invokevirtual 234, 3) := by decide +kernel
theorem dX10_wrong_22 : decode cX10_wrong 22 = .ok (.ireturn, 1) := by decide +kernel
theorem dX10_wrongBy_0 : decode cX10_wrongBy 0 = .ok (.aload_n 0, 1) := by decide +kernel
theorem dX10_wrongBy_1 : decode cX10_wrongBy 1 = .ok (.getfield 41, 3) := by decide +kernel
theorem dX10_wrongBy_4 : decode cX10_wrongBy 4 = .ok (.invokevirtual 237, 3) := by decide +kernel
theorem dX10_wrongBy_7 : decode cX10_wrongBy 7 = .ok (.istore_n 2, 1) := by decide +kernel
theorem dX10_wrongBy_8 : decode cX10_wrongBy 8 = .ok (.iload_n 2, 1) := by decide +kernel
theorem dX10_wrongBy_9 : decode cX10_wrongBy 9 = .ok (.ifCond .ne 5, 3) := by decide +kernel
theorem dX10_wrongBy_12 : decode cX10_wrongBy 12 = .ok (.iconst 0, 1) := by decide +kernel
theorem dX10_wrongBy_13 : decode cX10_wrongBy 13 = .ok (.ireturn, 1) := by decide +kernel
theorem dX10_wrongBy_14 : decode cX10_wrongBy 14 = .ok (.aload_n 0, 1) := by decide +kernel
theorem dX10_wrongBy_15 : decode cX10_wrongBy 15 = .ok (.getfield 48, 3) := by decide +kernel
theorem dX10_wrongBy_18 : decode cX10_wrongBy 18 = .ok (.aload_n 0, 1) := by decide +kernel
theorem dX10_wrongBy_19 : decode cX10_wrongBy 19 = .ok (.getfield 69, 3) := by decide +kernel
theorem dX10_wrongBy_22 : decode cX10_wrongBy 22 = .ok (.iload_n 1, 1) := by decide +kernel
theorem dX10_wrongBy_23 : decode cX10_wrongBy 23 = .ok (.invokevirtual 190, 3) := by decide +kernel
theorem dX10_wrongBy_26 : decode cX10_wrongBy 26 = .ok (.aload_n 0, 1) := by decide +kernel
theorem dX10_wrongBy_27 : decode cX10_wrongBy 27 = .ok (.getfield 48, 3) := by decide +kernel
theorem dX10_wrongBy_30 : decode cX10_wrongBy 30 = .ok (.aload_n 0, 1) := by decide +kernel
theorem dX10_wrongBy_31 : decode cX10_wrongBy 31 = .ok (.getfield 69, 3) := by decide +kernel
theorem dX10_wrongBy_34 : decode cX10_wrongBy 34 = .ok (.iload_n 1, 1) := by decide +kernel
theorem dX10_wrongBy_35 : decode cX10_wrongBy 35 = .ok (.invokevirtual 198, 3) := by decide +kernel
theorem dX10_wrongBy_38 : decode cX10_wrongBy 38 = .ok (.ifCond .eq 5, 3) := by decide +kernel
theorem dX10_wrongBy_41 : decode cX10_wrongBy 41 = .ok (.iconst 0, 1) := by decide +kernel
theorem dX10_wrongBy_42 : decode cX10_wrongBy 42 = .ok (.ireturn, 1) := by decide +kernel
theorem dX10_wrongBy_43 : decode cX10_wrongBy 43 = .ok (.iconst 0, 1) := by decide +kernel
theorem dX10_wrongBy_44 : decode cX10_wrongBy 44 = .ok (.istore_n 3, 1) := by decide +kernel
theorem dX10_wrongBy_45 : decode cX10_wrongBy 45 = .ok (.iconst 0, 1) := by decide +kernel
theorem dX10_wrongBy_46 : decode cX10_wrongBy 46 = .ok (.istore 4, 2) := by decide +kernel
theorem dX10_wrongBy_48 : decode cX10_wrongBy 48 = .ok (.iload 4, 2) := by decide +kernel
theorem dX10_wrongBy_50 : decode cX10_wrongBy 50 = .ok (.iconst 4, 1) := by decide +kernel
theorem dX10_wrongBy_51 : decode cX10_wrongBy 51 = .ok (.if_icmp .ge 56, 3) := by decide +kernel
theorem dX10_wrongBy_54 : decode cX10_wrongBy 54 = .ok (.iload_n 2, 1) := by decide +kernel
theorem dX10_wrongBy_55 : decode cX10_wrongBy 55 = .ok (.iload 4, 2) := by decide +kernel
theorem dX10_wrongBy_57 : decode cX10_wrongBy 57 = .ok (.ishr, 1) := by decide +kernel
theorem dX10_wrongBy_58 : decode cX10_wrongBy 58 = .ok (.iconst 1, 1) := by decide +kernel
theorem dX10_wrongBy_59 : decode cX10_wrongBy 59 = .ok (.iand, 1) := by decide +kernel
theorem dX10_wrongBy_60 : decode cX10_wrongBy 60 = .ok (.iconst 1, 1) := by decide +kernel
theorem dX10_wrongBy_61 : decode cX10_wrongBy 61 = .ok (.if_icmp .ne 40, 3) := by decide +kernel
theorem dX10_wrongBy_64 : decode cX10_wrongBy 64 = .ok (.aload_n 0, 1) := by decide +kernel
theorem dX10_wrongBy_65 : decode cX10_wrongBy 65 = .ok (.getfield 48, 3) := by decide +kernel
theorem dX10_wrongBy_68 : decode cX10_wrongBy 68 = .ok (.aload_n 0, 1) := by decide +kernel
theorem dX10_wrongBy_69 : decode cX10_wrongBy 69 = .ok (.getfield 41, 3) := by decide +kernel
theorem dX10_wrongBy_72 : decode cX10_wrongBy 72 = .ok (.iload 4, 2) := by decide +kernel
theorem dX10_wrongBy_74 : decode cX10_wrongBy 74 = .ok (.iconst 0, 1) := by decide +kernel
theorem dX10_wrongBy_75 : decode cX10_wrongBy 75 = .ok (.invokevirtual 210, 3) := by decide +kernel
theorem dX10_wrongBy_78 : decode cX10_wrongBy 78 = .ok (.aload_n 0, 1) := by decide +kernel
theorem dX10_wrongBy_79 : decode cX10_wrongBy 79 = .ok (.getfield 41, 3) := by decide +kernel
theorem dX10_wrongBy_82 : decode cX10_wrongBy 82 = .ok (.iload 4, 2) := by decide +kernel
theorem dX10_wrongBy_84 : decode cX10_wrongBy 84 = .ok (.iconst 1, 1) := by decide +kernel
theorem dX10_wrongBy_85 : decode cX10_wrongBy 85 = .ok (.invokevirtual 210, 3) := by decide +kernel
theorem dX10_wrongBy_88 : decode cX10_wrongBy 88 = .ok (.invokevirtual 194, 3) := by decide +kernel
theorem dX10_wrongBy_91 : decode cX10_wrongBy 91 = .ok (.ifCond .ne 10, 3) := by decide +kernel
theorem dX10_wrongBy_94 : decode cX10_wrongBy 94 = .ok (.iload_n 3, 1) := by decide +kernel
theorem dX10_wrongBy_95 : decode cX10_wrongBy 95 = .ok (.iconst 1, 1) := by decide +kernel
theorem dX10_wrongBy_96 : decode cX10_wrongBy 96 = .ok (.iload 4, 2) := by decide +kernel
theorem dX10_wrongBy_98 : decode cX10_wrongBy 98 = .ok (.ishl, 1) := by decide +kernel
theorem dX10_wrongBy_99 : decode cX10_wrongBy 99 = .ok (.ior, 1) := by decide +kernel
theorem dX10_wrongBy_100 : decode cX10_wrongBy 100 = .ok (.istore_n 3, 1) := by decide +kernel
theorem dX10_wrongBy_101 : decode cX10_wrongBy 101 = .ok (.iinc 4 1, 3) := by decide +kernel
theorem dX10_wrongBy_104 : decode cX10_wrongBy 104 = .ok (.goto (-56), 3) := by decide +kernel
theorem dX10_wrongBy_107 : decode cX10_wrongBy 107 = .ok (.iload_n 3, 1) := by decide +kernel
theorem dX10_wrongBy_108 : decode cX10_wrongBy 108 = .ok (.ireturn, 1) := by decide +kernel
theorem dX10_needed_0 : decode cX10_needed 0 = .ok (.getstatic 241, 3) := by decide +kernel
theorem dX10_needed_3 : decode cX10_needed 3 = .ok (.astore_n 1, 1) := by decide +kernel
theorem dX10_needed_4 : decode cX10_needed 4 = .ok (.aload_n 1, 1) := by decide +kernel
theorem dX10_needed_5 : decode cX10_needed 5 = .ok (.arraylength, 1) := by decide +kernel
theorem dX10_needed_6 : decode cX10_needed 6 = .ok (.istore_n 2, 1) := by decide +kernel
theorem dX10_needed_7 : decode cX10_needed 7 = .ok (.iconst 0, 1) := by decide +kernel
theorem dX10_needed_8 : decode cX10_needed 8 = .ok (.istore_n 3, 1) := by decide +kernel
theorem dX10_needed_9 : decode cX10_needed 9 = .ok (.iload_n 3, 1) := by decide +kernel
theorem dX10_needed_10 : decode cX10_needed 10 = .ok (.iload_n 2, 1) := by decide +kernel
theorem dX10_needed_11 : decode cX10_needed 11 = .ok (.if_icmp .ge 59, 3) := by decide +kernel
theorem dX10_needed_14 : decode cX10_needed 14 = .ok (.aload_n 1, 1) := by decide +kernel
theorem dX10_needed_15 : decode cX10_needed 15 = .ok (.iload_n 3, 1) := by decide +kernel
theorem dX10_needed_16 : decode cX10_needed 16 = .ok (.iaload, 1) := by decide +kernel
theorem dX10_needed_17 : decode cX10_needed 17 = .ok (.istore 4, 2) := by decide +kernel
theorem dX10_needed_19 : decode cX10_needed 19 = .ok (.aload_n 0, 1) := by decide +kernel
theorem dX10_needed_20 : decode cX10_needed 20 = .ok (.getfield 62, 3) := by decide +kernel
theorem dX10_needed_23 : decode cX10_needed 23 = .ok (.aload_n 0, 1) := by decide +kernel
theorem dX10_needed_24 : decode cX10_needed 24 = .ok (.getfield 19, 3) := by decide +kernel
theorem dX10_needed_27 : decode cX10_needed 27 = .ok (.getfield 161, 3) := by decide +kernel
theorem dX10_needed_30 : decode cX10_needed 30 = .ok (.getfield 231, 3) := by decide +kernel
theorem dX10_needed_33 : decode cX10_needed 33 = .ok (.iload 4, 2) := by decide +kernel
theorem dX10_needed_35 : decode cX10_needed 35 = .ok (.iconst 0, 1) := by decide +kernel
theorem dX10_needed_36 : decode cX10_needed 36 = .ok (.invokevirtual 168, 3) := by decide +kernel
theorem dX10_needed_39 : decode cX10_needed 39 = .ok (.aload_n 0, 1) := by decide +kernel
theorem dX10_needed_40 : decode cX10_needed 40 = .ok (.aload_n 0, 1) := by decide +kernel
theorem dX10_needed_41 : decode cX10_needed 41 = .ok (.getfield 62, 3) := by decide +kernel
theorem dX10_needed_44 : decode cX10_needed 44 = .ok (.invokevirtual 206, 3) := by decide +kernel
theorem dX10_needed_47 : decode cX10_needed 47 = .ok (.aload_n 0, 1) := by decide +kernel
theorem dX10_needed_48 : decode cX10_needed 48 = .ok (.aload_n 0, 1) := by decide +kernel
theorem dX10_needed_49 : decode cX10_needed 49 = .ok (.getfield 19, 3) := by decide +kernel
theorem dX10_needed_52 : decode cX10_needed 52 = .ok (.getfield 158, 3) := by decide +kernel
theorem dX10_needed_55 : decode cX10_needed 55 = .ok (.invokevirtual 234, 3) := by decide +kernel
theorem dX10_needed_58 : decode cX10_needed 58 = .ok (.ifCond .ne 6, 3) := by decide +kernel
theorem dX10_needed_61 : decode cX10_needed 61 = .ok (.iload 4, 2) := by decide +kernel
theorem dX10_needed_63 : decode cX10_needed 63 = .ok (.ireturn, 1) := by decide +kernel
theorem dX10_needed_64 : decode cX10_needed 64 = .ok (.iinc 3 1, 3) := by decide +kernel
theorem dX10_needed_67 : decode cX10_needed 67 = .ok (.goto (-58), 3) := by decide +kernel
theorem dX10_needed_70 : decode cX10_needed 70 = .ok (.bipush (-9), 2) := by decide +kernel
theorem dX10_needed_72 : decode cX10_needed 72 = .ok (.ireturn, 1) := by decide +kernel
theorem dX10_fewest_0 : decode cX10_fewest 0 = .ok (.aload_n 0, 1) := by decide +kernel
theorem dX10_fewest_1 : decode cX10_fewest 1 = .ok (.aload_n 0, 1) := by decide +kernel
theorem dX10_fewest_2 : decode cX10_fewest 2 = .ok (.getfield 19, 3) := by decide +kernel
theorem dX10_fewest_5 : decode cX10_fewest 5 = .ok (.getfield 161, 3) := by decide +kernel
theorem dX10_fewest_8 : decode cX10_fewest 8 = .ok (.invokevirtual 206, 3) := by decide +kernel
theorem dX10_fewest_11 : decode cX10_fewest 11 = .ok (.aload_n 0, 1) := by decide +kernel
theorem dX10_fewest_12 : decode cX10_fewest 12 = .ok (.aload_n 0, 1) := by decide +kernel
theorem dX10_fewest_13 : decode cX10_fewest 13 = .ok (.getfield 19, 3) := by decide +kernel
theorem dX10_fewest_16 : decode cX10_fewest 16 = .ok (.getfield 158, 3) := by decide +kernel
theorem dX10_fewest_19 : decode cX10_fewest 19 = .ok (.invokevirtual 234, 3) := by decide +kernel
theorem dX10_fewest_22 : decode cX10_fewest 22 = .ok (.ifCond .eq 6, 3) := by decide +kernel
theorem dX10_fewest_25 : decode cX10_fewest 25 = .ok (.bipush (-9), 2) := by decide +kernel
theorem dX10_fewest_27 : decode cX10_fewest 27 = .ok (.ireturn, 1) := by decide +kernel
theorem dX10_fewest_28 : decode cX10_fewest 28 = .ok (.iconst 0, 1) := by decide +kernel
theorem dX10_fewest_29 : decode cX10_fewest 29 = .ok (.istore_n 1, 1) := by decide +kernel
theorem dX10_fewest_30 : decode cX10_fewest 30 = .ok (.iload_n 1, 1) := by decide +kernel
theorem dX10_fewest_31 : decode cX10_fewest 31 = .ok (.aload_n 0, 1) := by decide +kernel
theorem dX10_fewest_32 : decode cX10_fewest 32 = .ok (.getfield 69, 3) := by decide +kernel
theorem dX10_fewest_35 : decode cX10_fewest 35 = .ok (.getfield 245, 3) := by decide +kernel
theorem dX10_fewest_38 : decode cX10_fewest 38 = .ok (.if_icmp .gt 70, 3) := by decide +kernel
theorem dX10_fewest_41 : decode cX10_fewest 41 = .ok (.iconst 0, 1) := by decide +kernel
theorem dX10_fewest_42 : decode cX10_fewest 42 = .ok (.istore_n 2, 1) := by decide +kernel
theorem dX10_fewest_43 : decode cX10_fewest 43 = .ok (.iload_n 2, 1) := by decide +kernel
theorem dX10_fewest_44 : decode cX10_fewest 44 = .ok (.aload_n 0, 1) := by decide +kernel
theorem dX10_fewest_45 : decode cX10_fewest 45 = .ok (.getfield 19, 3) := by decide +kernel
theorem dX10_fewest_48 : decode cX10_fewest 48 = .ok (.getfield 158, 3) := by decide +kernel
theorem dX10_fewest_51 : decode cX10_fewest 51 = .ok (.if_icmp .gt 51, 3) := by decide +kernel
theorem dX10_fewest_54 : decode cX10_fewest 54 = .ok (.iload_n 2, 1) := by decide +kernel
theorem dX10_fewest_55 : decode cX10_fewest 55 = .ok (.invokestatic 248, 3) := by decide +kernel
theorem dX10_fewest_58 : decode cX10_fewest 58 = .ok (.iload_n 1, 1) := by decide +kernel
theorem dX10_fewest_59 : decode cX10_fewest 59 = .ok (.if_icmp .ne 21, 3) := by decide +kernel
theorem dX10_fewest_62 : decode cX10_fewest 62 = .ok (.iload_n 2, 1) := by decide +kernel
theorem dX10_fewest_63 : decode cX10_fewest 63 = .ok (.aload_n 0, 1) := by decide +kernel
theorem dX10_fewest_64 : decode cX10_fewest 64 = .ok (.getfield 19, 3) := by decide +kernel
theorem dX10_fewest_67 : decode cX10_fewest 67 = .ok (.getfield 158, 3) := by decide +kernel
theorem dX10_fewest_70 : decode cX10_fewest 70 = .ok (.iconst (-1), 1) := by decide +kernel
theorem dX10_fewest_71 : decode cX10_fewest 71 = .ok (.ixor, 1) := by decide +kernel
theorem dX10_fewest_72 : decode cX10_fewest 72 = .ok (.iand, 1) := by decide +kernel
theorem dX10_fewest_73 : decode cX10_fewest 73 = .ok (.ifCond .ne 7, 3) := by decide +kernel
theorem dX10_fewest_76 : decode cX10_fewest 76 = .ok (.iconst 1, 1) := by decide +kernel
theorem dX10_fewest_77 : decode cX10_fewest 77 = .ok (.goto 4, 3) := by decide +kernel
theorem dX10_fewest_80 : decode cX10_fewest 80 = .ok (.iconst 0, 1) := by decide +kernel
theorem dX10_fewest_81 : decode cX10_fewest 81 = .ok (.istore_n 3, 1) := by decide +kernel
theorem dX10_fewest_82 : decode cX10_fewest 82 = .ok (.iload_n 3, 1) := by decide +kernel
theorem dX10_fewest_83 : decode cX10_fewest 83 = .ok (.ifCond .eq 13, 3) := by decide +kernel
theorem dX10_fewest_86 : decode cX10_fewest 86 = .ok (.aload_n 0, 1) := by decide +kernel
theorem dX10_fewest_87 : decode cX10_fewest 87 = .ok (.iload_n 2, 1) := by decide +kernel
theorem dX10_fewest_88 : decode cX10_fewest 88 = .ok (.invokevirtual 234, 3) := by decide +kernel
theorem dX10_fewest_91 : decode cX10_fewest 91 = .ok (.ifCond .ne 5, 3) := by decide +kernel
theorem dX10_fewest_94 : decode cX10_fewest 94 = .ok (.iload_n 2, 1) := by decide +kernel
theorem dX10_fewest_95 : decode cX10_fewest 95 = .ok (.ireturn, 1) := by decide +kernel
theorem dX10_fewest_96 : decode cX10_fewest 96 = .ok (.iinc 2 1, 3) := by decide +kernel
theorem dX10_fewest_99 : decode cX10_fewest 99 = .ok (.goto (-56), 3) := by decide +kernel
theorem dX10_fewest_102 : decode cX10_fewest 102 = .ok (.iinc 1 1, 3) := by decide +kernel
theorem dX10_fewest_105 : decode cX10_fewest 105 = .ok (.goto (-75), 3) := by decide +kernel
theorem dX10_fewest_108 : decode cX10_fewest 108 = .ok (.bipush (-9), 2) := by decide +kernel
theorem dX10_fewest_110 : decode cX10_fewest 110 = .ok (.ireturn, 1) := by decide +kernel
theorem dX10_broken_0 : decode cX10_broken 0 = .ok (.iload_n 1, 1) := by decide +kernel
theorem dX10_broken_1 : decode cX10_broken 1 = .ok (.iconst (-1), 1) := by decide +kernel
theorem dX10_broken_2 : decode cX10_broken 2 = .ok (.if_icmp .ge 5, 3) := by decide +kernel
theorem dX10_broken_5 : decode cX10_broken 5 = .ok (.iconst (-1), 1) := by decide +kernel
theorem dX10_broken_6 : decode cX10_broken 6 = .ok (.ireturn, 1) := by decide +kernel
theorem dX10_broken_7 : decode cX10_broken 7 = .ok (.aload_n 0, 1) := by decide +kernel
theorem dX10_broken_8 : decode cX10_broken 8 = .ok (.getfield 55, 3) := by decide +kernel
theorem dX10_broken_11 : decode cX10_broken 11 = .ok (.aload_n 0, 1) := by decide +kernel
theorem dX10_broken_12 : decode cX10_broken 12 = .ok (.getfield 19, 3) := by decide +kernel
theorem dX10_broken_15 : decode cX10_broken 15 = .ok (.getfield 161, 3) := by decide +kernel
theorem dX10_broken_18 : decode cX10_broken 18 = .ok (.invokevirtual 253, 3) := by decide +kernel
theorem dX10_broken_21 : decode cX10_broken 21 = .ok (.istore_n 2, 1) := by decide +kernel
theorem dX10_broken_22 : decode cX10_broken 22 = .ok (.iload_n 2, 1) := by decide +kernel
theorem dX10_broken_23 : decode cX10_broken 23 = .ok (.invokestatic 257, 3) := by decide +kernel
theorem dX10_broken_26 : decode cX10_broken 26 = .ok (.istore_n 3, 1) := by decide +kernel
theorem dX10_broken_27 : decode cX10_broken 27 = .ok (.iload_n 3, 1) := by decide +kernel
theorem dX10_broken_28 : decode cX10_broken 28 = .ok (.ifCond .eq 8, 3) := by decide +kernel
theorem dX10_broken_31 : decode cX10_broken 31 = .ok (.iload_n 1, 1) := by decide +kernel
theorem dX10_broken_32 : decode cX10_broken 32 = .ok (.iload_n 3, 1) := by decide +kernel
theorem dX10_broken_33 : decode cX10_broken 33 = .ok (.if_icmp .lt 6, 3) := by decide +kernel
theorem dX10_broken_36 : decode cX10_broken 36 = .ok (.bipush (-9), 2) := by decide +kernel
theorem dX10_broken_38 : decode cX10_broken 38 = .ok (.ireturn, 1) := by decide +kernel
theorem dX10_broken_39 : decode cX10_broken 39 = .ok (.iload_n 1, 1) := by decide +kernel
theorem dX10_broken_40 : decode cX10_broken 40 = .ok (.iconst (-1), 1) := by decide +kernel
theorem dX10_broken_41 : decode cX10_broken 41 = .ok (.if_icmp .ne 7, 3) := by decide +kernel
theorem dX10_broken_44 : decode cX10_broken 44 = .ok (.iload_n 3, 1) := by decide +kernel
theorem dX10_broken_45 : decode cX10_broken 45 = .ok (.goto 8, 3) := by decide +kernel
theorem dX10_broken_48 : decode cX10_broken 48 = .ok (.iload_n 2, 1) := by decide +kernel
theorem dX10_broken_49 : decode cX10_broken 49 = .ok (.iload_n 1, 1) := by decide +kernel
theorem dX10_broken_50 : decode cX10_broken 50 = .ok (.invokestatic 260, 3) := by decide +kernel
theorem dX10_broken_53 : decode cX10_broken 53 = .ok (.ireturn, 1) := by decide +kernel
theorem dX10_sees_0 : decode cX10_sees 0 = .ok (.iload_n 1, 1) := by decide +kernel
theorem dX10_sees_1 : decode cX10_sees 1 = .ok (.ifCond .lt 9, 3) := by decide +kernel
theorem dX10_sees_4 : decode cX10_sees 4 = .ok (.iload_n 1, 1) := by decide +kernel
theorem dX10_sees_5 : decode cX10_sees 5 = .ok (.bipush 15, 2) := by decide +kernel
theorem dX10_sees_7 : decode cX10_sees 7 = .ok (.if_icmp .le 5, 3) := by decide +kernel
theorem dX10_sees_10 : decode cX10_sees 10 = .ok (.iconst (-1), 1) := by decide +kernel
theorem dX10_sees_11 : decode cX10_sees 11 = .ok (.ireturn, 1) := by decide +kernel
theorem dX10_sees_12 : decode cX10_sees 12 = .ok (.aload_n 0, 1) := by decide +kernel
theorem dX10_sees_13 : decode cX10_sees 13 = .ok (.getfield 89, 3) := by decide +kernel
theorem dX10_sees_16 : decode cX10_sees 16 = .ok (.iconst 4, 1) := by decide +kernel
theorem dX10_sees_17 : decode cX10_sees 17 = .ok (.if_icmp .lt 6, 3) := by decide +kernel
theorem dX10_sees_20 : decode cX10_sees 20 = .ok (.bipush (-3), 2) := by decide +kernel
theorem dX10_sees_22 : decode cX10_sees 22 = .ok (.ireturn, 1) := by decide +kernel
theorem dX10_sees_23 : decode cX10_sees 23 = .ok (.aload_n 0, 1) := by decide +kernel
theorem dX10_sees_24 : decode cX10_sees 24 = .ok (.dup, 1) := by decide +kernel
theorem dX10_sees_25 : decode cX10_sees 25 = .ok (.getfield 89, 3) := by decide +kernel
theorem dX10_sees_28 : decode cX10_sees 28 = .ok (.iconst 1, 1) := by decide +kernel
theorem dX10_sees_29 : decode cX10_sees 29 = .ok (.iadd, 1) := by decide +kernel
theorem dX10_sees_30 : decode cX10_sees 30 = .ok (.putfield 89, 3) := by decide +kernel
theorem dX10_sees_33 : decode cX10_sees 33 = .ok (.aload_n 0, 1) := by decide +kernel
theorem dX10_sees_34 : decode cX10_sees 34 = .ok (.dup, 1) := by decide +kernel
theorem dX10_sees_35 : decode cX10_sees 35 = .ok (.getfield 93, 3) := by decide +kernel
theorem dX10_sees_38 : decode cX10_sees 38 = .ok (.aload_n 0, 1) := by decide +kernel
theorem dX10_sees_39 : decode cX10_sees 39 = .ok (.iload_n 1, 1) := by decide +kernel
theorem dX10_sees_40 : decode cX10_sees 40 = .ok (.invokevirtual 263, 3) := by decide +kernel
theorem dX10_sees_43 : decode cX10_sees 43 = .ok (.iand, 1) := by decide +kernel
theorem dX10_sees_44 : decode cX10_sees 44 = .ok (.putfield 93, 3) := by decide +kernel
theorem dX10_sees_47 : decode cX10_sees 47 = .ok (.aload_n 0, 1) := by decide +kernel
theorem dX10_sees_48 : decode cX10_sees 48 = .ok (.getfield 89, 3) := by decide +kernel
theorem dX10_sees_51 : decode cX10_sees 51 = .ok (.ireturn, 1) := by decide +kernel
theorem dX10_forwardsBy_0 : decode cX10_forwardsBy 0 = .ok (.iconst 0, 1) := by decide +kernel
theorem dX10_forwardsBy_1 : decode cX10_forwardsBy 1 = .ok (.istore_n 2, 1) := by decide +kernel
theorem dX10_forwardsBy_2 : decode cX10_forwardsBy 2 = .ok (.iconst 0, 1) := by decide +kernel
theorem dX10_forwardsBy_3 : decode cX10_forwardsBy 3 = .ok (.istore_n 3, 1) := by decide +kernel
theorem dX10_forwardsBy_4 : decode cX10_forwardsBy 4 = .ok (.iload_n 3, 1) := by decide +kernel
theorem dX10_forwardsBy_5 : decode cX10_forwardsBy 5 = .ok (.bipush 7, 2) := by decide +kernel
theorem dX10_forwardsBy_7 : decode cX10_forwardsBy 7 = .ok (.if_icmp .gt 53, 3) := by decide +kernel
theorem dX10_forwardsBy_10 : decode cX10_forwardsBy 10 = .ok (.aload_n 0, 1) := by decide +kernel
theorem dX10_forwardsBy_11 : decode cX10_forwardsBy 11 = .ok (.getfield 62, 3) := by decide +kernel
theorem dX10_forwardsBy_14 : decode cX10_forwardsBy 14 = .ok (.aload_n 0, 1) := by decide +kernel
theorem dX10_forwardsBy_15 : decode cX10_forwardsBy 15 = .ok (.getfield 19, 3) := by decide +kernel
theorem dX10_forwardsBy_18 : decode cX10_forwardsBy 18 = .ok (.getfield 161, 3) := by decide +kernel
theorem dX10_forwardsBy_21 : decode cX10_forwardsBy 21 = .ok (.getfield 231, 3) := by decide +kernel
theorem dX10_forwardsBy_24 : decode cX10_forwardsBy 24 = .ok (.iload_n 3, 1) := by decide +kernel
theorem dX10_forwardsBy_25 : decode cX10_forwardsBy 25 = .ok (.iconst 0, 1) := by decide +kernel
theorem dX10_forwardsBy_26 : decode cX10_forwardsBy 26 = .ok (.invokevirtual 168, 3) := by decide +kernel
theorem dX10_forwardsBy_29 : decode cX10_forwardsBy 29 = .ok (.aload_n 0, 1) := by decide +kernel
theorem dX10_forwardsBy_30 : decode cX10_forwardsBy 30 = .ok (.aload_n 0, 1) := by decide +kernel
theorem dX10_forwardsBy_31 : decode cX10_forwardsBy 31 = .ok (.getfield 62, 3) := by decide +kernel
theorem dX10_forwardsBy_34 : decode cX10_forwardsBy 34 = .ok (.invokevirtual 206, 3) := by decide +kernel
theorem dX10_forwardsBy_37 : decode cX10_forwardsBy 37 = .ok (.aload_n 0, 1) := by decide +kernel
theorem dX10_forwardsBy_38 : decode cX10_forwardsBy 38 = .ok (.getfield 41, 3) := by decide +kernel
theorem dX10_forwardsBy_41 : decode cX10_forwardsBy 41 = .ok (.invokevirtual 237, 3) := by decide +kernel
theorem dX10_forwardsBy_44 : decode cX10_forwardsBy 44 = .ok (.iload_n 1, 1) := by decide +kernel
theorem dX10_forwardsBy_45 : decode cX10_forwardsBy 45 = .ok (.if_icmp .ne 9, 3) := by decide +kernel
theorem dX10_forwardsBy_48 : decode cX10_forwardsBy 48 = .ok (.iload_n 2, 1) := by decide +kernel
theorem dX10_forwardsBy_49 : decode cX10_forwardsBy 49 = .ok (.iconst 1, 1) := by decide +kernel
theorem dX10_forwardsBy_50 : decode cX10_forwardsBy 50 = .ok (.iload_n 3, 1) := by decide +kernel
theorem dX10_forwardsBy_51 : decode cX10_forwardsBy 51 = .ok (.ishl, 1) := by decide +kernel
theorem dX10_forwardsBy_52 : decode cX10_forwardsBy 52 = .ok (.ior, 1) := by decide +kernel
theorem dX10_forwardsBy_53 : decode cX10_forwardsBy 53 = .ok (.istore_n 2, 1) := by decide +kernel
theorem dX10_forwardsBy_54 : decode cX10_forwardsBy 54 = .ok (.iinc 3 1, 3) := by decide +kernel
theorem dX10_forwardsBy_57 : decode cX10_forwardsBy 57 = .ok (.goto (-53), 3) := by decide +kernel
theorem dX10_forwardsBy_60 : decode cX10_forwardsBy 60 = .ok (.iload_n 2, 1) := by decide +kernel
theorem dX10_forwardsBy_61 : decode cX10_forwardsBy 61 = .ok (.ireturn, 1) := by decide +kernel
theorem dX10_forget_0 : decode cX10_forget 0 = .ok (.aload_n 0, 1) := by decide +kernel
theorem dX10_forget_1 : decode cX10_forget 1 = .ok (.getfield 89, 3) := by decide +kernel
theorem dX10_forget_4 : decode cX10_forget 4 = .ok (.istore_n 1, 1) := by decide +kernel
theorem dX10_forget_5 : decode cX10_forget 5 = .ok (.aload_n 0, 1) := by decide +kernel
theorem dX10_forget_6 : decode cX10_forget 6 = .ok (.invokevirtual 86, 3) := by decide +kernel
theorem dX10_forget_9 : decode cX10_forget 9 = .ok (.iload_n 1, 1) := by decide +kernel
theorem dX10_forget_10 : decode cX10_forget 10 = .ok (.ireturn, 1) := by decide +kernel
theorem dX10_unseen_0 : decode cX10_unseen 0 = .ok (.aload_n 0, 1) := by decide +kernel
theorem dX10_unseen_1 : decode cX10_unseen 1 = .ok (.getfield 93, 3) := by decide +kernel
theorem dX10_unseen_4 : decode cX10_unseen 4 = .ok (.ireturn, 1) := by decide +kernel
theorem dX10_keep_0 : decode cX10_keep 0 = .ok (.iload_n 1, 1) := by decide +kernel
theorem dX10_keep_1 : decode cX10_keep 1 = .ok (.ifCond .lt 8, 3) := by decide +kernel
theorem dX10_keep_4 : decode cX10_keep 4 = .ok (.iload_n 1, 1) := by decide +kernel
theorem dX10_keep_5 : decode cX10_keep 5 = .ok (.iconst 2, 1) := by decide +kernel
theorem dX10_keep_6 : decode cX10_keep 6 = .ok (.if_icmp .lt 5, 3) := by decide +kernel
theorem dX10_keep_9 : decode cX10_keep 9 = .ok (.iconst (-1), 1) := by decide +kernel
theorem dX10_keep_10 : decode cX10_keep 10 = .ok (.ireturn, 1) := by decide +kernel
theorem dX10_keep_11 : decode cX10_keep 11 = .ok (.aload_n 0, 1) := by decide +kernel
theorem dX10_keep_12 : decode cX10_keep 12 = .ok (.getfield 30, 3) := by decide +kernel
theorem dX10_keep_15 : decode cX10_keep 15 = .ok (.iload_n 1, 1) := by decide +kernel
theorem dX10_keep_16 : decode cX10_keep 16 = .ok (.aaload, 1) := by decide +kernel
theorem dX10_keep_17 : decode cX10_keep 17 = .ok (.aload_n 0, 1) := by decide +kernel
theorem dX10_keep_18 : decode cX10_keep 18 = .ok (.getfield 19, 3) := by decide +kernel
theorem dX10_keep_21 : decode cX10_keep 21 = .ok (.invokevirtual 266, 3) := by decide +kernel
theorem dX10_keep_24 : decode cX10_keep 24 = .ok (.aload_n 0, 1) := by decide +kernel
theorem dX10_keep_25 : decode cX10_keep 25 = .ok (.getfield 34, 3) := by decide +kernel
theorem dX10_keep_28 : decode cX10_keep 28 = .ok (.iload_n 1, 1) := by decide +kernel
theorem dX10_keep_29 : decode cX10_keep 29 = .ok (.iconst 1, 1) := by decide +kernel
theorem dX10_keep_30 : decode cX10_keep 30 = .ok (.bastore, 1) := by decide +kernel
theorem dX10_keep_31 : decode cX10_keep 31 = .ok (.aload_n 0, 1) := by decide +kernel
theorem dX10_keep_32 : decode cX10_keep 32 = .ok (.getfield 19, 3) := by decide +kernel
theorem dX10_keep_35 : decode cX10_keep 35 = .ok (.getfield 111, 3) := by decide +kernel
theorem dX10_keep_38 : decode cX10_keep 38 = .ok (.getfield 137, 3) := by decide +kernel
theorem dX10_keep_41 : decode cX10_keep 41 = .ok (.ireturn, 1) := by decide +kernel
theorem dX10_back_0 : decode cX10_back 0 = .ok (.iload_n 1, 1) := by decide +kernel
theorem dX10_back_1 : decode cX10_back 1 = .ok (.ifCond .lt 8, 3) := by decide +kernel
theorem dX10_back_4 : decode cX10_back 4 = .ok (.iload_n 1, 1) := by decide +kernel
theorem dX10_back_5 : decode cX10_back 5 = .ok (.iconst 2, 1) := by decide +kernel
theorem dX10_back_6 : decode cX10_back 6 = .ok (.if_icmp .lt 5, 3) := by decide +kernel
theorem dX10_back_9 : decode cX10_back 9 = .ok (.iconst (-1), 1) := by decide +kernel
theorem dX10_back_10 : decode cX10_back 10 = .ok (.ireturn, 1) := by decide +kernel
theorem dX10_back_11 : decode cX10_back 11 = .ok (.aload_n 0, 1) := by decide +kernel
theorem dX10_back_12 : decode cX10_back 12 = .ok (.getfield 34, 3) := by decide +kernel
theorem dX10_back_15 : decode cX10_back 15 = .ok (.iload_n 1, 1) := by decide +kernel
theorem dX10_back_16 : decode cX10_back 16 = .ok (.baload, 1) := by decide +kernel
theorem dX10_back_17 : decode cX10_back 17 = .ok (.ifCond .ne 6, 3) := by decide +kernel
theorem dX10_back_20 : decode cX10_back 20 = .ok (.bipush (-2), 2) := by decide +kernel
theorem dX10_back_22 : decode cX10_back 22 = .ok (.ireturn, 1) := by decide +kernel
theorem dX10_back_23 : decode cX10_back 23 = .ok (.aload_n 0, 1) := by decide +kernel
theorem dX10_back_24 : decode cX10_back 24 = .ok (.getfield 19, 3) := by decide +kernel
theorem dX10_back_27 : decode cX10_back 27 = .ok (.aload_n 0, 1) := by decide +kernel
theorem dX10_back_28 : decode cX10_back 28 = .ok (.getfield 30, 3) := by decide +kernel
theorem dX10_back_31 : decode cX10_back 31 = .ok (.iload_n 1, 1) := by decide +kernel
theorem dX10_back_32 : decode cX10_back 32 = .ok (.aaload, 1) := by decide +kernel
theorem dX10_back_33 : decode cX10_back 33 = .ok (.invokevirtual 266, 3) := by decide +kernel
theorem dX10_back_36 : decode cX10_back 36 = .ok (.aload_n 0, 1) := by decide +kernel
theorem dX10_back_37 : decode cX10_back 37 = .ok (.getfield 26, 3) := by decide +kernel
theorem dX10_back_40 : decode cX10_back 40 = .ok (.invokevirtual 83, 3) := by decide +kernel
theorem dX10_back_43 : decode cX10_back 43 = .ok (.aload_n 0, 1) := by decide +kernel
theorem dX10_back_44 : decode cX10_back 44 = .ok (.getfield 19, 3) := by decide +kernel
theorem dX10_back_47 : decode cX10_back 47 = .ok (.getfield 111, 3) := by decide +kernel
theorem dX10_back_50 : decode cX10_back 50 = .ok (.getfield 137, 3) := by decide +kernel
theorem dX10_back_53 : decode cX10_back 53 = .ok (.ireturn, 1) := by decide +kernel
theorem dX10_count_0 : decode cX10_count 0 = .ok (.iload_n 1, 1) := by decide +kernel
theorem dX10_count_1 : decode cX10_count 1 = .ok (.tableswitch 132 0 8 #[51, 59, 67, 78, 89, 100, 111, 116, 124], 51) := by decide +kernel
theorem dX10_count_52 : decode cX10_count 52 = .ok (.aload_n 0, 1) := by decide +kernel
theorem dX10_count_53 : decode cX10_count 53 = .ok (.getfield 69, 3) := by decide +kernel
theorem dX10_count_56 : decode cX10_count 56 = .ok (.getfield 245, 3) := by decide +kernel
theorem dX10_count_59 : decode cX10_count 59 = .ok (.ireturn, 1) := by decide +kernel
theorem dX10_count_60 : decode cX10_count 60 = .ok (.aload_n 0, 1) := by decide +kernel
theorem dX10_count_61 : decode cX10_count 61 = .ok (.getfield 19, 3) := by decide +kernel
theorem dX10_count_64 : decode cX10_count 64 = .ok (.getfield 158, 3) := by decide +kernel
theorem dX10_count_67 : decode cX10_count 67 = .ok (.ireturn, 1) := by decide +kernel
theorem dX10_count_68 : decode cX10_count 68 = .ok (.aload_n 0, 1) := by decide +kernel
theorem dX10_count_69 : decode cX10_count 69 = .ok (.getfield 19, 3) := by decide +kernel
theorem dX10_count_72 : decode cX10_count 72 = .ok (.getfield 111, 3) := by decide +kernel
theorem dX10_count_75 : decode cX10_count 75 = .ok (.getfield 137, 3) := by decide +kernel
theorem dX10_count_78 : decode cX10_count 78 = .ok (.ireturn, 1) := by decide +kernel
theorem dX10_count_79 : decode cX10_count 79 = .ok (.aload_n 0, 1) := by decide +kernel
theorem dX10_count_80 : decode cX10_count 80 = .ok (.getfield 19, 3) := by decide +kernel
theorem dX10_count_83 : decode cX10_count 83 = .ok (.getfield 161, 3) := by decide +kernel
theorem dX10_count_86 : decode cX10_count 86 = .ok (.getfield 231, 3) := by decide +kernel
theorem dX10_count_89 : decode cX10_count 89 = .ok (.ireturn, 1) := by decide +kernel
theorem dX10_count_90 : decode cX10_count 90 = .ok (.aload_n 0, 1) := by decide +kernel
theorem dX10_count_91 : decode cX10_count 91 = .ok (.getfield 19, 3) := by decide +kernel
theorem dX10_count_94 : decode cX10_count 94 = .ok (.getfield 161, 3) := by decide +kernel
theorem dX10_count_97 : decode cX10_count 97 = .ok (.getfield 269, 3) := by decide +kernel
theorem dX10_count_100 : decode cX10_count 100 = .ok (.ireturn, 1) := by decide +kernel
theorem dX10_count_101 : decode cX10_count 101 = .ok (.aload_n 0, 1) := by decide +kernel
theorem dX10_count_102 : decode cX10_count 102 = .ok (.getfield 19, 3) := by decide +kernel
theorem dX10_count_105 : decode cX10_count 105 = .ok (.getfield 161, 3) := by decide +kernel
theorem dX10_count_108 : decode cX10_count 108 = .ok (.getfield 272, 3) := by decide +kernel
theorem dX10_count_111 : decode cX10_count 111 = .ok (.ireturn, 1) := by decide +kernel
theorem dX10_count_112 : decode cX10_count 112 = .ok (.aload_n 0, 1) := by decide +kernel
theorem dX10_count_113 : decode cX10_count 113 = .ok (.getfield 89, 3) := by decide +kernel
theorem dX10_count_116 : decode cX10_count 116 = .ok (.ireturn, 1) := by decide +kernel
theorem dX10_count_117 : decode cX10_count 117 = .ok (.aload_n 0, 1) := by decide +kernel
theorem dX10_count_118 : decode cX10_count 118 = .ok (.getfield 12, 3) := by decide +kernel
theorem dX10_count_121 : decode cX10_count 121 = .ok (.getfield 104, 3) := by decide +kernel
theorem dX10_count_124 : decode cX10_count 124 = .ok (.ireturn, 1) := by decide +kernel
theorem dX10_count_125 : decode cX10_count 125 = .ok (.aload_n 0, 1) := by decide +kernel
theorem dX10_count_126 : decode cX10_count 126 = .ok (.getfield 26, 3) := by decide +kernel
theorem dX10_count_129 : decode cX10_count 129 = .ok (.getfield 171, 3) := by decide +kernel
theorem dX10_count_132 : decode cX10_count 132 = .ok (.ireturn, 1) := by decide +kernel
theorem dX10_count_133 : decode cX10_count 133 = .ok (.iconst (-1), 1) := by decide +kernel
theorem dX10_count_134 : decode cX10_count 134 = .ok (.ireturn, 1) := by decide +kernel
theorem dX11_init_0 : decode cX11_init 0 = .ok (.aload_n 0, 1) := by decide +kernel
theorem dX11_init_1 : decode cX11_init 1 = .ok (.invokespecial 1, 3) := by decide +kernel
theorem dX11_init_4 : decode cX11_init 4 = .ok (.aload_n 0, 1) := by decide +kernel
theorem dX11_init_5 : decode cX11_init 5 = .ok (.bipush 6, 2) := by decide +kernel
theorem dX11_init_7 : decode cX11_init 7 = .ok (.newarray .boolean, 2) := by decide +kernel
theorem dX11_init_9 : decode cX11_init 9 = .ok (.putfield 7, 3) := by decide +kernel
theorem dX11_init_12 : decode cX11_init 12 = .ok (.aload_n 0, 1) := by decide +kernel
theorem dX11_init_13 : decode cX11_init 13 = .ok (.bipush 6, 2) := by decide +kernel
theorem dX11_init_15 : decode cX11_init 15 = .ok (.newarray .int, 2) := by decide +kernel
theorem dX11_init_17 : decode cX11_init 17 = .ok (.putfield 13, 3) := by decide +kernel
theorem dX11_init_20 : decode cX11_init 20 = .ok (.aload_n 0, 1) := by decide +kernel
theorem dX11_init_21 : decode cX11_init 21 = .ok (.bipush 6, 2) := by decide +kernel
theorem dX11_init_23 : decode cX11_init 23 = .ok (.newarray .int, 2) := by decide +kernel
theorem dX11_init_25 : decode cX11_init 25 = .ok (.putfield 17, 3) := by decide +kernel
theorem dX11_init_28 : decode cX11_init 28 = .ok (.aload_n 0, 1) := by decide +kernel
theorem dX11_init_29 : decode cX11_init 29 = .ok (.bipush 29, 2) := by decide +kernel
theorem dX11_init_31 : decode cX11_init 31 = .ok (.newarray .int, 2) := by decide +kernel
theorem dX11_init_33 : decode cX11_init 33 = .ok (.putfield 20, 3) := by decide +kernel
theorem dX11_init_36 : decode cX11_init 36 = .ok (.aload_n 0, 1) := by decide +kernel
theorem dX11_init_37 : decode cX11_init 37 = .ok (.sipush 290, 3) := by decide +kernel
theorem dX11_init_40 : decode cX11_init 40 = .ok (.newarray .int, 2) := by decide +kernel
theorem dX11_init_42 : decode cX11_init 42 = .ok (.putfield 23, 3) := by decide +kernel
theorem dX11_init_45 : decode cX11_init 45 = .ok (.aload_n 0, 1) := by decide +kernel
theorem dX11_init_46 : decode cX11_init 46 = .ok (.bipush 58, 2) := by decide +kernel
theorem dX11_init_48 : decode cX11_init 48 = .ok (.newarray .int, 2) := by decide +kernel
theorem dX11_init_50 : decode cX11_init 50 = .ok (.putfield 26, 3) := by decide +kernel
theorem dX11_init_53 : decode cX11_init 53 = .ok (.aload_n 0, 1) := by decide +kernel
theorem dX11_init_54 : decode cX11_init 54 = .ok (.iconst 2, 1) := by decide +kernel
theorem dX11_init_55 : decode cX11_init 55 = .ok (.newarray .boolean, 2) := by decide +kernel
theorem dX11_init_57 : decode cX11_init 57 = .ok (.putfield 29, 3) := by decide +kernel
theorem dX11_init_60 : decode cX11_init 60 = .ok (.aload_n 0, 1) := by decide +kernel
theorem dX11_init_61 : decode cX11_init 61 = .ok (.iconst 4, 1) := by decide +kernel
theorem dX11_init_62 : decode cX11_init 62 = .ok (.newarray .int, 2) := by decide +kernel
theorem dX11_init_64 : decode cX11_init 64 = .ok (.putfield 32, 3) := by decide +kernel
theorem dX11_init_67 : decode cX11_init 67 = .ok (.aload_n 0, 1) := by decide +kernel
theorem dX11_init_68 : decode cX11_init 68 = .ok (.bipush 116, 2) := by decide +kernel
theorem dX11_init_70 : decode cX11_init 70 = .ok (.newarray .int, 2) := by decide +kernel
theorem dX11_init_72 : decode cX11_init 72 = .ok (.putfield 35, 3) := by decide +kernel
theorem dX11_init_75 : decode cX11_init 75 = .ok (.aload_n 0, 1) := by decide +kernel
theorem dX11_init_76 : decode cX11_init 76 = .ok (.sipush 200, 3) := by decide +kernel
theorem dX11_init_79 : decode cX11_init 79 = .ok (.newarray .int, 2) := by decide +kernel
theorem dX11_init_81 : decode cX11_init 81 = .ok (.putfield 38, 3) := by decide +kernel
theorem dX11_init_84 : decode cX11_init 84 = .ok (.aload_n 0, 1) := by decide +kernel
theorem dX11_init_85 : decode cX11_init 85 = .ok (.sipush 200, 3) := by decide +kernel
theorem dX11_init_88 : decode cX11_init 88 = .ok (.newarray .int, 2) := by decide +kernel
theorem dX11_init_90 : decode cX11_init 90 = .ok (.putfield 41, 3) := by decide +kernel
theorem dX11_init_93 : decode cX11_init 93 = .ok (.aload_n 0, 1) := by decide +kernel
theorem dX11_init_94 : decode cX11_init 94 = .ok (.sipush 200, 3) := by decide +kernel
theorem dX11_init_97 : decode cX11_init 97 = .ok (.newarray .int, 2) := by decide +kernel
theorem dX11_init_99 : decode cX11_init 99 = .ok (.putfield 44, 3) := by decide +kernel
theorem dX11_init_102 : decode cX11_init 102 = .ok (.aload_n 0, 1) := by decide +kernel
theorem dX11_init_103 : decode cX11_init 103 = .ok (.bipush 40, 2) := by decide +kernel
theorem dX11_init_105 : decode cX11_init 105 = .ok (.newarray .int, 2) := by decide +kernel
theorem dX11_init_107 : decode cX11_init 107 = .ok (.putfield 47, 3) := by decide +kernel
theorem dX11_init_110 : decode cX11_init 110 = .ok (.aload_n 0, 1) := by decide +kernel
theorem dX11_init_111 : decode cX11_init 111 = .ok (.bipush 40, 2) := by decide +kernel
theorem dX11_init_113 : decode cX11_init 113 = .ok (.newarray .int, 2) := by decide +kernel
theorem dX11_init_115 : decode cX11_init 115 = .ok (.putfield 50, 3) := by decide +kernel
theorem dX11_init_118 : decode cX11_init 118 = .ok (.aload_n 0, 1) := by decide +kernel
theorem dX11_init_119 : decode cX11_init 119 = .ok (.bipush 100, 2) := by decide +kernel
theorem dX11_init_121 : decode cX11_init 121 = .ok (.newarray .int, 2) := by decide +kernel
theorem dX11_init_123 : decode cX11_init 123 = .ok (.putfield 53, 3) := by decide +kernel
theorem dX11_init_126 : decode cX11_init 126 = .ok (.aload_n 0, 1) := by decide +kernel
theorem dX11_init_127 : decode cX11_init 127 = .ok (.bipush 6, 2) := by decide +kernel
theorem dX11_init_129 : decode cX11_init 129 = .ok (.newarray .boolean, 2) := by decide +kernel
theorem dX11_init_131 : decode cX11_init 131 = .ok (.putfield 56, 3) := by decide +kernel
theorem dX11_init_134 : decode cX11_init 134 = .ok (.aload_n 0, 1) := by decide +kernel
theorem dX11_init_135 : decode cX11_init 135 = .ok (.bipush 6, 2) := by decide +kernel
theorem dX11_init_137 : decode cX11_init 137 = .ok (.newarray .int, 2) := by decide +kernel
theorem dX11_init_139 : decode cX11_init 139 = .ok (.putfield 59, 3) := by decide +kernel
theorem dX11_init_142 : decode cX11_init 142 = .ok (.aload_n 0, 1) := by decide +kernel
theorem dX11_init_143 : decode cX11_init 143 = .ok (.bipush 6, 2) := by decide +kernel
theorem dX11_init_145 : decode cX11_init 145 = .ok (.newarray .int, 2) := by decide +kernel
theorem dX11_init_147 : decode cX11_init 147 = .ok (.putfield 62, 3) := by decide +kernel
theorem dX11_init_150 : decode cX11_init 150 = .ok (.aload_n 0, 1) := by decide +kernel
theorem dX11_init_151 : decode cX11_init 151 = .ok (.bipush 24, 2) := by decide +kernel
theorem dX11_init_153 : decode cX11_init 153 = .ok (.newarray .int, 2) := by decide +kernel
theorem dX11_init_155 : decode cX11_init 155 = .ok (.putfield 65, 3) := by decide +kernel
theorem dX11_init_158 : decode cX11_init 158 = .ok (.aload_n 0, 1) := by decide +kernel
theorem dX11_init_159 : decode cX11_init 159 = .ok (.bipush 6, 2) := by decide +kernel
theorem dX11_init_161 : decode cX11_init 161 = .ok (.newarray .int, 2) := by decide +kernel
theorem dX11_init_163 : decode cX11_init 163 = .ok (.putfield 68, 3) := by decide +kernel
theorem dX11_init_166 : decode cX11_init 166 = .ok (.aload_n 0, 1) := by decide +kernel
theorem dX11_init_167 : decode cX11_init 167 = .ok (.bipush 6, 2) := by decide +kernel
theorem dX11_init_169 : decode cX11_init 169 = .ok (.newarray .int, 2) := by decide +kernel
theorem dX11_init_171 : decode cX11_init 171 = .ok (.putfield 71, 3) := by decide +kernel
theorem dX11_init_174 : decode cX11_init 174 = .ok (.aload_n 0, 1) := by decide +kernel
theorem dX11_init_175 : decode cX11_init 175 = .ok (.sipush 200, 3) := by decide +kernel
theorem dX11_init_178 : decode cX11_init 178 = .ok (.newarray .int, 2) := by decide +kernel
theorem dX11_init_180 : decode cX11_init 180 = .ok (.putfield 74, 3) := by decide +kernel
theorem dX11_init_183 : decode cX11_init 183 = .ok (.aload_n 0, 1) := by decide +kernel
theorem dX11_init_184 : decode cX11_init 184 = .ok (.sipush 200, 3) := by decide +kernel
theorem dX11_init_187 : decode cX11_init 187 = .ok (.newarray .int, 2) := by decide +kernel
theorem dX11_init_189 : decode cX11_init 189 = .ok (.putfield 77, 3) := by decide +kernel
theorem dX11_init_192 : decode cX11_init 192 = .ok (.aload_n 0, 1) := by decide +kernel
theorem dX11_init_193 : decode cX11_init 193 = .ok (.sipush 200, 3) := by decide +kernel
theorem dX11_init_196 : decode cX11_init 196 = .ok (.newarray .int, 2) := by decide +kernel
theorem dX11_init_198 : decode cX11_init 198 = .ok (.putfield 80, 3) := by decide +kernel
theorem dX11_init_201 : decode cX11_init 201 = .ok (.aload_n 0, 1) := by decide +kernel
theorem dX11_init_202 : decode cX11_init 202 = .ok (.sipush 200, 3) := by decide +kernel
theorem dX11_init_205 : decode cX11_init 205 = .ok (.newarray .int, 2) := by decide +kernel
theorem dX11_init_207 : decode cX11_init 207 = .ok (.putfield 83, 3) := by decide +kernel
theorem dX11_init_210 : decode cX11_init 210 = .ok (.aload_n 0, 1) := by decide +kernel
theorem dX11_init_211 : decode cX11_init 211 = .ok (.bipush 6, 2) := by decide +kernel
theorem dX11_init_213 : decode cX11_init 213 = .ok (.newarray .int, 2) := by decide +kernel
theorem dX11_init_215 : decode cX11_init 215 = .ok (.putfield 86, 3) := by decide +kernel
theorem dX11_init_218 : decode cX11_init 218 = .ok (.aload_n 0, 1) := by decide +kernel
theorem dX11_init_219 : decode cX11_init 219 = .ok (.bipush 6, 2) := by decide +kernel
theorem dX11_init_221 : decode cX11_init 221 = .ok (.newarray .int, 2) := by decide +kernel
theorem dX11_init_223 : decode cX11_init 223 = .ok (.putfield 89, 3) := by decide +kernel
theorem dX11_init_226 : decode cX11_init 226 = .ok (.aload_n 0, 1) := by decide +kernel
theorem dX11_init_227 : decode cX11_init 227 = .ok (.bipush 8, 2) := by decide +kernel
theorem dX11_init_229 : decode cX11_init 229 = .ok (.newarray .int, 2) := by decide +kernel
theorem dX11_init_231 : decode cX11_init 231 = .ok (.putfield 92, 3) := by decide +kernel
theorem dX11_init_234 : decode cX11_init 234 = .ok (.aload_n 0, 1) := by decide +kernel
theorem dX11_init_235 : decode cX11_init 235 = .ok (.bipush 29, 2) := by decide +kernel
theorem dX11_init_237 : decode cX11_init 237 = .ok (.newarray .int, 2) := by decide +kernel
theorem dX11_init_239 : decode cX11_init 239 = .ok (.putfield 95, 3) := by decide +kernel
theorem dX11_init_242 : decode cX11_init 242 = .ok (.aload_n 0, 1) := by decide +kernel
theorem dX11_init_243 : decode cX11_init 243 = .ok (.invokevirtual 98, 3) := by decide +kernel
theorem dX11_init_246 : decode cX11_init 246 = .ok (.aload_n 0, 1) := by decide +kernel
theorem dX11_init_247 : decode cX11_init 247 = .ok (.invokevirtual 101, 3) := by decide +kernel
theorem dX11_init_250 : decode cX11_init 250 = .ok (.return_, 1) := by decide +kernel
theorem dX11_in_0 : decode cX11_in 0 = .ok (.iload_n 0, 1) := by decide +kernel
theorem dX11_in_1 : decode cX11_in 1 = .ok (.iload_n 1, 1) := by decide +kernel
theorem dX11_in_2 : decode cX11_in 2 = .ok (.if_icmp .lt 12, 3) := by decide +kernel
theorem dX11_in_5 : decode cX11_in 5 = .ok (.iload_n 0, 1) := by decide +kernel
theorem dX11_in_6 : decode cX11_in 6 = .ok (.iload_n 2, 1) := by decide +kernel
theorem dX11_in_7 : decode cX11_in 7 = .ok (.if_icmp .gt 7, 3) := by decide +kernel
theorem dX11_in_10 : decode cX11_in 10 = .ok (.iconst 1, 1) := by decide +kernel
theorem dX11_in_11 : decode cX11_in 11 = .ok (.goto 4, 3) := by decide +kernel
theorem dX11_in_14 : decode cX11_in 14 = .ok (.iconst 0, 1) := by decide +kernel
theorem dX11_in_15 : decode cX11_in 15 = .ok (.ireturn, 1) := by decide +kernel
theorem dX11_has_0 : decode cX11_has 0 = .ok (.iload_n 0, 1) := by decide +kernel
theorem dX11_has_1 : decode cX11_has 1 = .ok (.iload_n 1, 1) := by decide +kernel
theorem dX11_has_2 : decode cX11_has 2 = .ok (.ishr, 1) := by decide +kernel
theorem dX11_has_3 : decode cX11_has 3 = .ok (.iconst 1, 1) := by decide +kernel
theorem dX11_has_4 : decode cX11_has 4 = .ok (.iand, 1) := by decide +kernel
theorem dX11_has_5 : decode cX11_has 5 = .ok (.iconst 1, 1) := by decide +kernel
theorem dX11_has_6 : decode cX11_has 6 = .ok (.if_icmp .ne 7, 3) := by decide +kernel
theorem dX11_has_9 : decode cX11_has 9 = .ok (.iconst 1, 1) := by decide +kernel
theorem dX11_has_10 : decode cX11_has 10 = .ok (.goto 4, 3) := by decide +kernel
theorem dX11_has_13 : decode cX11_has 13 = .ok (.iconst 0, 1) := by decide +kernel
theorem dX11_has_14 : decode cX11_has 14 = .ok (.ireturn, 1) := by decide +kernel
theorem dX11_ones_0 : decode cX11_ones 0 = .ok (.iconst 0, 1) := by decide +kernel
theorem dX11_ones_1 : decode cX11_ones 1 = .ok (.istore_n 1, 1) := by decide +kernel
theorem dX11_ones_2 : decode cX11_ones 2 = .ok (.iconst 0, 1) := by decide +kernel
theorem dX11_ones_3 : decode cX11_ones 3 = .ok (.istore_n 2, 1) := by decide +kernel
theorem dX11_ones_4 : decode cX11_ones 4 = .ok (.iload_n 2, 1) := by decide +kernel
