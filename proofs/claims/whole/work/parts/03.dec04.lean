theorem dX11_ones_5 : decode cX11_ones 5 = .ok (.bipush 8, 2) := by decide +kernel
theorem dX11_ones_7 : decode cX11_ones 7 = .ok (.if_icmp .ge 25, 3) := by decide +kernel
theorem dX11_ones_10 : decode cX11_ones 10 = .ok (.iload_n 1, 1) := by decide +kernel
theorem dX11_ones_11 : decode cX11_ones 11 = .ok (.iload_n 0, 1) := by decide +kernel
theorem dX11_ones_12 : decode cX11_ones 12 = .ok (.iload_n 2, 1) := by decide +kernel
theorem dX11_ones_13 : decode cX11_ones 13 = .ok (.invokestatic 108, 3) := by decide +kernel
theorem dX11_ones_16 : decode cX11_ones 16 = .ok (.ifCond .eq 7, 3) := by decide +kernel
theorem dX11_ones_19 : decode cX11_ones 19 = .ok (.iconst 1, 1) := by decide +kernel
theorem dX11_ones_20 : decode cX11_ones 20 = .ok (.goto 4, 3) := by decide +kernel
theorem dX11_ones_23 : decode cX11_ones 23 = .ok (.iconst 0, 1) := by decide +kernel
theorem dX11_ones_24 : decode cX11_ones 24 = .ok (.iadd, 1) := by decide +kernel
theorem dX11_ones_25 : decode cX11_ones 25 = .ok (.istore_n 1, 1) := by decide +kernel
theorem dX11_ones_26 : decode cX11_ones 26 = .ok (.iinc 2 1, 3) := by decide +kernel
theorem dX11_ones_29 : decode cX11_ones 29 = .ok (.goto (-25), 3) := by decide +kernel
theorem dX11_ones_32 : decode cX11_ones 32 = .ok (.iload_n 1, 1) := by decide +kernel
theorem dX11_ones_33 : decode cX11_ones 33 = .ok (.ireturn, 1) := by decide +kernel
theorem dX11_node_0 : decode cX11_node 0 = .ok (.iconst 0, 1) := by decide +kernel
theorem dX11_node_1 : decode cX11_node 1 = .ok (.istore 4, 2) := by decide +kernel
theorem dX11_node_3 : decode cX11_node 3 = .ok (.iload 4, 2) := by decide +kernel
theorem dX11_node_5 : decode cX11_node 5 = .ok (.aload_n 0, 1) := by decide +kernel
theorem dX11_node_6 : decode cX11_node 6 = .ok (.getfield 112, 3) := by decide +kernel
theorem dX11_node_9 : decode cX11_node 9 = .ok (.if_icmp .ge 45, 3) := by decide +kernel
theorem dX11_node_12 : decode cX11_node 12 = .ok (.aload_n 0, 1) := by decide +kernel
theorem dX11_node_13 : decode cX11_node 13 = .ok (.getfield 38, 3) := by decide +kernel
theorem dX11_node_16 : decode cX11_node 16 = .ok (.iload 4, 2) := by decide +kernel
theorem dX11_node_18 : decode cX11_node 18 = .ok (.iaload, 1) := by decide +kernel
theorem dX11_node_19 : decode cX11_node 19 = .ok (.iload_n 1, 1) := by decide +kernel
theorem dX11_node_20 : decode cX11_node 20 = .ok (.if_icmp .ne 28, 3) := by decide +kernel
theorem dX11_node_23 : decode cX11_node 23 = .ok (.aload_n 0, 1) := by decide +kernel
theorem dX11_node_24 : decode cX11_node 24 = .ok (.getfield 41, 3) := by decide +kernel
theorem dX11_node_27 : decode cX11_node 27 = .ok (.iload 4, 2) := by decide +kernel
theorem dX11_node_29 : decode cX11_node 29 = .ok (.iaload, 1) := by decide +kernel
theorem dX11_node_30 : decode cX11_node 30 = .ok (.iload_n 2, 1) := by decide +kernel
theorem dX11_node_31 : decode cX11_node 31 = .ok (.if_icmp .ne 17, 3) := by decide +kernel
theorem dX11_node_34 : decode cX11_node 34 = .ok (.aload_n 0, 1) := by decide +kernel
theorem dX11_node_35 : decode cX11_node 35 = .ok (.getfield 44, 3) := by decide +kernel
theorem dX11_node_38 : decode cX11_node 38 = .ok (.iload 4, 2) := by decide +kernel
theorem dX11_node_40 : decode cX11_node 40 = .ok (.iaload, 1) := by decide +kernel
theorem dX11_node_41 : decode cX11_node 41 = .ok (.iload_n 3, 1) := by decide +kernel
theorem dX11_node_42 : decode cX11_node 42 = .ok (.if_icmp .ne 6, 3) := by decide +kernel
theorem dX11_node_45 : decode cX11_node 45 = .ok (.iload 4, 2) := by decide +kernel
theorem dX11_node_47 : decode cX11_node 47 = .ok (.ireturn, 1) := by decide +kernel
theorem dX11_node_48 : decode cX11_node 48 = .ok (.iinc 4 1, 3) := by decide +kernel
theorem dX11_node_51 : decode cX11_node 51 = .ok (.goto (-48), 3) := by decide +kernel
theorem dX11_node_54 : decode cX11_node 54 = .ok (.aload_n 0, 1) := by decide +kernel
theorem dX11_node_55 : decode cX11_node 55 = .ok (.getfield 38, 3) := by decide +kernel
theorem dX11_node_58 : decode cX11_node 58 = .ok (.aload_n 0, 1) := by decide +kernel
theorem dX11_node_59 : decode cX11_node 59 = .ok (.getfield 112, 3) := by decide +kernel
theorem dX11_node_62 : decode cX11_node 62 = .ok (.iload_n 1, 1) := by decide +kernel
theorem dX11_node_63 : decode cX11_node 63 = .ok (.iastore, 1) := by decide +kernel
theorem dX11_node_64 : decode cX11_node 64 = .ok (.aload_n 0, 1) := by decide +kernel
theorem dX11_node_65 : decode cX11_node 65 = .ok (.getfield 41, 3) := by decide +kernel
theorem dX11_node_68 : decode cX11_node 68 = .ok (.aload_n 0, 1) := by decide +kernel
theorem dX11_node_69 : decode cX11_node 69 = .ok (.getfield 112, 3) := by decide +kernel
theorem dX11_node_72 : decode cX11_node 72 = .ok (.iload_n 2, 1) := by decide +kernel
theorem dX11_node_73 : decode cX11_node 73 = .ok (.iastore, 1) := by decide +kernel
theorem dX11_node_74 : decode cX11_node 74 = .ok (.aload_n 0, 1) := by decide +kernel
theorem dX11_node_75 : decode cX11_node 75 = .ok (.getfield 44, 3) := by decide +kernel
theorem dX11_node_78 : decode cX11_node 78 = .ok (.aload_n 0, 1) := by decide +kernel
theorem dX11_node_79 : decode cX11_node 79 = .ok (.getfield 112, 3) := by decide +kernel
theorem dX11_node_82 : decode cX11_node 82 = .ok (.iload_n 3, 1) := by decide +kernel
theorem dX11_node_83 : decode cX11_node 83 = .ok (.iastore, 1) := by decide +kernel
theorem dX11_node_84 : decode cX11_node 84 = .ok (.aload_n 0, 1) := by decide +kernel
theorem dX11_node_85 : decode cX11_node 85 = .ok (.dup, 1) := by decide +kernel
theorem dX11_node_86 : decode cX11_node 86 = .ok (.getfield 112, 3) := by decide +kernel
theorem dX11_node_89 : decode cX11_node 89 = .ok (.iconst 1, 1) := by decide +kernel
theorem dX11_node_90 : decode cX11_node 90 = .ok (.iadd, 1) := by decide +kernel
theorem dX11_node_91 : decode cX11_node 91 = .ok (.putfield 112, 3) := by decide +kernel
theorem dX11_node_94 : decode cX11_node 94 = .ok (.aload_n 0, 1) := by decide +kernel
theorem dX11_node_95 : decode cX11_node 95 = .ok (.getfield 112, 3) := by decide +kernel
theorem dX11_node_98 : decode cX11_node 98 = .ok (.iconst 1, 1) := by decide +kernel
theorem dX11_node_99 : decode cX11_node 99 = .ok (.isub, 1) := by decide +kernel
theorem dX11_node_100 : decode cX11_node 100 = .ok (.ireturn, 1) := by decide +kernel
theorem dX11_laysConstants_0 : decode cX11_laysConstants 0 = .ok (.aload_n 0, 1) := by decide +kernel
theorem dX11_laysConstants_1 : decode cX11_laysConstants 1 = .ok (.iconst 0, 1) := by decide +kernel
theorem dX11_laysConstants_2 : decode cX11_laysConstants 2 = .ok (.putfield 112, 3) := by decide +kernel
theorem dX11_laysConstants_5 : decode cX11_laysConstants 5 = .ok (.iconst 0, 1) := by decide +kernel
theorem dX11_laysConstants_6 : decode cX11_laysConstants 6 = .ok (.istore_n 1, 1) := by decide +kernel
theorem dX11_laysConstants_7 : decode cX11_laysConstants 7 = .ok (.iload_n 1, 1) := by decide +kernel
theorem dX11_laysConstants_8 : decode cX11_laysConstants 8 = .ok (.iconst 4, 1) := by decide +kernel
theorem dX11_laysConstants_9 : decode cX11_laysConstants 9 = .ok (.if_icmp .ge 19, 3) := by decide +kernel
theorem dX11_laysConstants_12 : decode cX11_laysConstants 12 = .ok (.aload_n 0, 1) := by decide +kernel
theorem dX11_laysConstants_13 : decode cX11_laysConstants 13 = .ok (.iload_n 1, 1) := by decide +kernel
theorem dX11_laysConstants_14 : decode cX11_laysConstants 14 = .ok (.bipush (-9), 2) := by decide +kernel
theorem dX11_laysConstants_16 : decode cX11_laysConstants 16 = .ok (.bipush (-9), 2) := by decide +kernel
theorem dX11_laysConstants_18 : decode cX11_laysConstants 18 = .ok (.invokevirtual 115, 3) := by decide +kernel
theorem dX11_laysConstants_21 : decode cX11_laysConstants 21 = .ok (.pop, 1) := by decide +kernel
theorem dX11_laysConstants_22 : decode cX11_laysConstants 22 = .ok (.iinc 1 1, 3) := by decide +kernel
theorem dX11_laysConstants_25 : decode cX11_laysConstants 25 = .ok (.goto (-18), 3) := by decide +kernel
theorem dX11_laysConstants_28 : decode cX11_laysConstants 28 = .ok (.aload_n 0, 1) := by decide +kernel
theorem dX11_laysConstants_29 : decode cX11_laysConstants 29 = .ok (.iconst 4, 1) := by decide +kernel
theorem dX11_laysConstants_30 : decode cX11_laysConstants 30 = .ok (.putfield 119, 3) := by decide +kernel
theorem dX11_laysConstants_33 : decode cX11_laysConstants 33 = .ok (.return_, 1) := by decide +kernel
theorem dX11_depth_0 : decode cX11_depth 0 = .ok (.iconst 0, 1) := by decide +kernel
theorem dX11_depth_1 : decode cX11_depth 1 = .ok (.istore_n 2, 1) := by decide +kernel
theorem dX11_depth_2 : decode cX11_depth 2 = .ok (.iconst 0, 1) := by decide +kernel
theorem dX11_depth_3 : decode cX11_depth 3 = .ok (.istore_n 3, 1) := by decide +kernel
theorem dX11_depth_4 : decode cX11_depth 4 = .ok (.iconst 1, 1) := by decide +kernel
theorem dX11_depth_5 : decode cX11_depth 5 = .ok (.istore 4, 2) := by decide +kernel
theorem dX11_depth_7 : decode cX11_depth 7 = .ok (.aload_n 0, 1) := by decide +kernel
theorem dX11_depth_8 : decode cX11_depth 8 = .ok (.getfield 47, 3) := by decide +kernel
theorem dX11_depth_11 : decode cX11_depth 11 = .ok (.iconst 0, 1) := by decide +kernel
theorem dX11_depth_12 : decode cX11_depth 12 = .ok (.iload_n 1, 1) := by decide +kernel
theorem dX11_depth_13 : decode cX11_depth 13 = .ok (.iastore, 1) := by decide +kernel
theorem dX11_depth_14 : decode cX11_depth 14 = .ok (.aload_n 0, 1) := by decide +kernel
theorem dX11_depth_15 : decode cX11_depth 15 = .ok (.getfield 50, 3) := by decide +kernel
theorem dX11_depth_18 : decode cX11_depth 18 = .ok (.iconst 0, 1) := by decide +kernel
theorem dX11_depth_19 : decode cX11_depth 19 = .ok (.iconst 0, 1) := by decide +kernel
theorem dX11_depth_20 : decode cX11_depth 20 = .ok (.iastore, 1) := by decide +kernel
theorem dX11_depth_21 : decode cX11_depth 21 = .ok (.iload 4, 2) := by decide +kernel
theorem dX11_depth_23 : decode cX11_depth 23 = .ok (.ifCond .le 113, 3) := by decide +kernel
theorem dX11_depth_26 : decode cX11_depth 26 = .ok (.iinc 4 (-1), 3) := by decide +kernel
theorem dX11_depth_29 : decode cX11_depth 29 = .ok (.aload_n 0, 1) := by decide +kernel
theorem dX11_depth_30 : decode cX11_depth 30 = .ok (.getfield 47, 3) := by decide +kernel
theorem dX11_depth_33 : decode cX11_depth 33 = .ok (.iload 4, 2) := by decide +kernel
theorem dX11_depth_35 : decode cX11_depth 35 = .ok (.iaload, 1) := by decide +kernel
theorem dX11_depth_36 : decode cX11_depth 36 = .ok (.istore 5, 2) := by decide +kernel
theorem dX11_depth_38 : decode cX11_depth 38 = .ok (.aload_n 0, 1) := by decide +kernel
theorem dX11_depth_39 : decode cX11_depth 39 = .ok (.getfield 50, 3) := by decide +kernel
theorem dX11_depth_42 : decode cX11_depth 42 = .ok (.iload 4, 2) := by decide +kernel
theorem dX11_depth_44 : decode cX11_depth 44 = .ok (.iaload, 1) := by decide +kernel
theorem dX11_depth_45 : decode cX11_depth 45 = .ok (.istore_n 2, 1) := by decide +kernel
theorem dX11_depth_46 : decode cX11_depth 46 = .ok (.iload_n 2, 1) := by decide +kernel
theorem dX11_depth_47 : decode cX11_depth 47 = .ok (.iload_n 3, 1) := by decide +kernel
theorem dX11_depth_48 : decode cX11_depth 48 = .ok (.if_icmp .le 7, 3) := by decide +kernel
theorem dX11_depth_51 : decode cX11_depth 51 = .ok (.iload_n 2, 1) := by decide +kernel
theorem dX11_depth_52 : decode cX11_depth 52 = .ok (.goto 4, 3) := by decide +kernel
theorem dX11_depth_55 : decode cX11_depth 55 = .ok (.iload_n 3, 1) := by decide +kernel
theorem dX11_depth_56 : decode cX11_depth 56 = .ok (.istore_n 3, 1) := by decide +kernel
theorem dX11_depth_57 : decode cX11_depth 57 = .ok (.aload_n 0, 1) := by decide +kernel
theorem dX11_depth_58 : decode cX11_depth 58 = .ok (.getfield 38, 3) := by decide +kernel
theorem dX11_depth_61 : decode cX11_depth 61 = .ok (.iload 5, 2) := by decide +kernel
theorem dX11_depth_63 : decode cX11_depth 63 = .ok (.iaload, 1) := by decide +kernel
theorem dX11_depth_64 : decode cX11_depth 64 = .ok (.iconst 5, 1) := by decide +kernel
theorem dX11_depth_65 : decode cX11_depth 65 = .ok (.if_icmp .ne 30, 3) := by decide +kernel
theorem dX11_depth_68 : decode cX11_depth 68 = .ok (.aload_n 0, 1) := by decide +kernel
theorem dX11_depth_69 : decode cX11_depth 69 = .ok (.getfield 47, 3) := by decide +kernel
theorem dX11_depth_72 : decode cX11_depth 72 = .ok (.iload 4, 2) := by decide +kernel
theorem dX11_depth_74 : decode cX11_depth 74 = .ok (.aload_n 0, 1) := by decide +kernel
theorem dX11_depth_75 : decode cX11_depth 75 = .ok (.getfield 44, 3) := by decide +kernel
theorem dX11_depth_78 : decode cX11_depth 78 = .ok (.iload 5, 2) := by decide +kernel
theorem dX11_depth_80 : decode cX11_depth 80 = .ok (.iaload, 1) := by decide +kernel
theorem dX11_depth_81 : decode cX11_depth 81 = .ok (.iastore, 1) := by decide +kernel
theorem dX11_depth_82 : decode cX11_depth 82 = .ok (.aload_n 0, 1) := by decide +kernel
theorem dX11_depth_83 : decode cX11_depth 83 = .ok (.getfield 50, 3) := by decide +kernel
theorem dX11_depth_86 : decode cX11_depth 86 = .ok (.iload 4, 2) := by decide +kernel
theorem dX11_depth_88 : decode cX11_depth 88 = .ok (.iload_n 2, 1) := by decide +kernel
theorem dX11_depth_89 : decode cX11_depth 89 = .ok (.iconst 1, 1) := by decide +kernel
theorem dX11_depth_90 : decode cX11_depth 90 = .ok (.iadd, 1) := by decide +kernel
theorem dX11_depth_91 : decode cX11_depth 91 = .ok (.iastore, 1) := by decide +kernel
theorem dX11_depth_92 : decode cX11_depth 92 = .ok (.iinc 4 1, 3) := by decide +kernel
theorem dX11_depth_95 : decode cX11_depth 95 = .ok (.aload_n 0, 1) := by decide +kernel
theorem dX11_depth_96 : decode cX11_depth 96 = .ok (.getfield 38, 3) := by decide +kernel
theorem dX11_depth_99 : decode cX11_depth 99 = .ok (.iload 5, 2) := by decide +kernel
theorem dX11_depth_101 : decode cX11_depth 101 = .ok (.iaload, 1) := by decide +kernel
theorem dX11_depth_102 : decode cX11_depth 102 = .ok (.iconst 4, 1) := by decide +kernel
theorem dX11_depth_103 : decode cX11_depth 103 = .ok (.if_icmp .lt 30, 3) := by decide +kernel
theorem dX11_depth_106 : decode cX11_depth 106 = .ok (.aload_n 0, 1) := by decide +kernel
theorem dX11_depth_107 : decode cX11_depth 107 = .ok (.getfield 47, 3) := by decide +kernel
theorem dX11_depth_110 : decode cX11_depth 110 = .ok (.iload 4, 2) := by decide +kernel
theorem dX11_depth_112 : decode cX11_depth 112 = .ok (.aload_n 0, 1) := by decide +kernel
theorem dX11_depth_113 : decode cX11_depth 113 = .ok (.getfield 41, 3) := by decide +kernel
theorem dX11_depth_116 : decode cX11_depth 116 = .ok (.iload 5, 2) := by decide +kernel
theorem dX11_depth_118 : decode cX11_depth 118 = .ok (.iaload, 1) := by decide +kernel
theorem dX11_depth_119 : decode cX11_depth 119 = .ok (.iastore, 1) := by decide +kernel
theorem dX11_depth_120 : decode cX11_depth 120 = .ok (.aload_n 0, 1) := by decide +kernel
theorem dX11_depth_121 : decode cX11_depth 121 = .ok (.getfield 50, 3) := by decide +kernel
theorem dX11_depth_124 : decode cX11_depth 124 = .ok (.iload 4, 2) := by decide +kernel
theorem dX11_depth_126 : decode cX11_depth 126 = .ok (.iload_n 2, 1) := by decide +kernel
theorem dX11_depth_127 : decode cX11_depth 127 = .ok (.iconst 1, 1) := by decide +kernel
theorem dX11_depth_128 : decode cX11_depth 128 = .ok (.iadd, 1) := by decide +kernel
theorem dX11_depth_129 : decode cX11_depth 129 = .ok (.iastore, 1) := by decide +kernel
theorem dX11_depth_130 : decode cX11_depth 130 = .ok (.iinc 4 1, 3) := by decide +kernel
theorem dX11_depth_133 : decode cX11_depth 133 = .ok (.goto (-112), 3) := by decide +kernel
theorem dX11_depth_136 : decode cX11_depth 136 = .ok (.iload_n 3, 1) := by decide +kernel
theorem dX11_depth_137 : decode cX11_depth 137 = .ok (.ireturn, 1) := by decide +kernel
theorem dX11_partOf_0 : decode cX11_partOf 0 = .ok (.iconst 1, 1) := by decide +kernel
theorem dX11_partOf_1 : decode cX11_partOf 1 = .ok (.istore_n 3, 1) := by decide +kernel
theorem dX11_partOf_2 : decode cX11_partOf 2 = .ok (.iconst 0, 1) := by decide +kernel
theorem dX11_partOf_3 : decode cX11_partOf 3 = .ok (.istore 4, 2) := by decide +kernel
theorem dX11_partOf_5 : decode cX11_partOf 5 = .ok (.aload_n 0, 1) := by decide +kernel
theorem dX11_partOf_6 : decode cX11_partOf 6 = .ok (.getfield 47, 3) := by decide +kernel
theorem dX11_partOf_9 : decode cX11_partOf 9 = .ok (.iconst 0, 1) := by decide +kernel
theorem dX11_partOf_10 : decode cX11_partOf 10 = .ok (.iload_n 1, 1) := by decide +kernel
theorem dX11_partOf_11 : decode cX11_partOf 11 = .ok (.iastore, 1) := by decide +kernel
theorem dX11_partOf_12 : decode cX11_partOf 12 = .ok (.iload_n 3, 1) := by decide +kernel
theorem dX11_partOf_13 : decode cX11_partOf 13 = .ok (.ifCond .le 83, 3) := by decide +kernel
theorem dX11_partOf_16 : decode cX11_partOf 16 = .ok (.iinc 3 (-1), 3) := by decide +kernel
theorem dX11_partOf_19 : decode cX11_partOf 19 = .ok (.aload_n 0, 1) := by decide +kernel
theorem dX11_partOf_20 : decode cX11_partOf 20 = .ok (.getfield 47, 3) := by decide +kernel
theorem dX11_partOf_23 : decode cX11_partOf 23 = .ok (.iload_n 3, 1) := by decide +kernel
theorem dX11_partOf_24 : decode cX11_partOf 24 = .ok (.iaload, 1) := by decide +kernel
theorem dX11_partOf_25 : decode cX11_partOf 25 = .ok (.istore 5, 2) := by decide +kernel
theorem dX11_partOf_27 : decode cX11_partOf 27 = .ok (.iload 4, 2) := by decide +kernel
theorem dX11_partOf_29 : decode cX11_partOf 29 = .ok (.iload_n 2, 1) := by decide +kernel
theorem dX11_partOf_30 : decode cX11_partOf 30 = .ok (.if_icmp .ne 6, 3) := by decide +kernel
theorem dX11_partOf_33 : decode cX11_partOf 33 = .ok (.iload 5, 2) := by decide +kernel
theorem dX11_partOf_35 : decode cX11_partOf 35 = .ok (.ireturn, 1) := by decide +kernel
theorem dX11_partOf_36 : decode cX11_partOf 36 = .ok (.iinc 4 1, 3) := by decide +kernel
theorem dX11_partOf_39 : decode cX11_partOf 39 = .ok (.aload_n 0, 1) := by decide +kernel
theorem dX11_partOf_40 : decode cX11_partOf 40 = .ok (.getfield 38, 3) := by decide +kernel
theorem dX11_partOf_43 : decode cX11_partOf 43 = .ok (.iload 5, 2) := by decide +kernel
theorem dX11_partOf_45 : decode cX11_partOf 45 = .ok (.iaload, 1) := by decide +kernel
theorem dX11_partOf_46 : decode cX11_partOf 46 = .ok (.iconst 5, 1) := by decide +kernel
theorem dX11_partOf_47 : decode cX11_partOf 47 = .ok (.if_icmp .ne 19, 3) := by decide +kernel
theorem dX11_partOf_50 : decode cX11_partOf 50 = .ok (.aload_n 0, 1) := by decide +kernel
theorem dX11_partOf_51 : decode cX11_partOf 51 = .ok (.getfield 47, 3) := by decide +kernel
theorem dX11_partOf_54 : decode cX11_partOf 54 = .ok (.iload_n 3, 1) := by decide +kernel
theorem dX11_partOf_55 : decode cX11_partOf 55 = .ok (.aload_n 0, 1) := by decide +kernel
theorem dX11_partOf_56 : decode cX11_partOf 56 = .ok (.getfield 44, 3) := by decide +kernel
theorem dX11_partOf_59 : decode cX11_partOf 59 = .ok (.iload 5, 2) := by decide +kernel
theorem dX11_partOf_61 : decode cX11_partOf 61 = .ok (.iaload, 1) := by decide +kernel
theorem dX11_partOf_62 : decode cX11_partOf 62 = .ok (.iastore, 1) := by decide +kernel
theorem dX11_partOf_63 : decode cX11_partOf 63 = .ok (.iinc 3 1, 3) := by decide +kernel
theorem dX11_partOf_66 : decode cX11_partOf 66 = .ok (.aload_n 0, 1) := by decide +kernel
theorem dX11_partOf_67 : decode cX11_partOf 67 = .ok (.getfield 38, 3) := by decide +kernel
theorem dX11_partOf_70 : decode cX11_partOf 70 = .ok (.iload 5, 2) := by decide +kernel
theorem dX11_partOf_72 : decode cX11_partOf 72 = .ok (.iaload, 1) := by decide +kernel
theorem dX11_partOf_73 : decode cX11_partOf 73 = .ok (.iconst 4, 1) := by decide +kernel
theorem dX11_partOf_74 : decode cX11_partOf 74 = .ok (.if_icmp .lt 19, 3) := by decide +kernel
theorem dX11_partOf_77 : decode cX11_partOf 77 = .ok (.aload_n 0, 1) := by decide +kernel
theorem dX11_partOf_78 : decode cX11_partOf 78 = .ok (.getfield 47, 3) := by decide +kernel
theorem dX11_partOf_81 : decode cX11_partOf 81 = .ok (.iload_n 3, 1) := by decide +kernel
theorem dX11_partOf_82 : decode cX11_partOf 82 = .ok (.aload_n 0, 1) := by decide +kernel
theorem dX11_partOf_83 : decode cX11_partOf 83 = .ok (.getfield 41, 3) := by decide +kernel
theorem dX11_partOf_86 : decode cX11_partOf 86 = .ok (.iload 5, 2) := by decide +kernel
theorem dX11_partOf_88 : decode cX11_partOf 88 = .ok (.iaload, 1) := by decide +kernel
theorem dX11_partOf_89 : decode cX11_partOf 89 = .ok (.iastore, 1) := by decide +kernel
theorem dX11_partOf_90 : decode cX11_partOf 90 = .ok (.iinc 3 1, 3) := by decide +kernel
theorem dX11_partOf_93 : decode cX11_partOf 93 = .ok (.goto (-81), 3) := by decide +kernel
theorem dX11_partOf_96 : decode cX11_partOf 96 = .ok (.bipush (-9), 2) := by decide +kernel
theorem dX11_partOf_98 : decode cX11_partOf 98 = .ok (.ireturn, 1) := by decide +kernel
theorem dX11_type_0 : decode cX11_type 0 = .ok (.aload_n 0, 1) := by decide +kernel
theorem dX11_type_1 : decode cX11_type 1 = .ok (.iconst 0, 1) := by decide +kernel
theorem dX11_type_2 : decode cX11_type 2 = .ok (.putfield 104, 3) := by decide +kernel
theorem dX11_type_5 : decode cX11_type 5 = .ok (.iload_n 1, 1) := by decide +kernel
theorem dX11_type_6 : decode cX11_type 6 = .ok (.iconst 0, 1) := by decide +kernel
theorem dX11_type_7 : decode cX11_type 7 = .ok (.sipush 255, 3) := by decide +kernel
theorem dX11_type_10 : decode cX11_type 10 = .ok (.invokestatic 122, 3) := by decide +kernel
theorem dX11_type_13 : decode cX11_type 13 = .ok (.ifCond .ne 5, 3) := by decide +kernel
theorem dX11_type_16 : decode cX11_type 16 = .ok (.iconst (-1), 1) := by decide +kernel
theorem dX11_type_17 : decode cX11_type 17 = .ok (.ireturn, 1) := by decide +kernel
theorem dX11_type_18 : decode cX11_type 18 = .ok (.aload_n 0, 1) := by decide +kernel
theorem dX11_type_19 : decode cX11_type 19 = .ok (.getfield 126, 3) := by decide +kernel
theorem dX11_type_22 : decode cX11_type 22 = .ok (.bipush 100, 2) := by decide +kernel
theorem dX11_type_24 : decode cX11_type 24 = .ok (.if_icmp .ne 6, 3) := by decide +kernel
theorem dX11_type_27 : decode cX11_type 27 = .ok (.bipush (-3), 2) := by decide +kernel
theorem dX11_type_29 : decode cX11_type 29 = .ok (.ireturn, 1) := by decide +kernel
theorem dX11_type_30 : decode cX11_type 30 = .ok (.aload_n 0, 1) := by decide +kernel
theorem dX11_type_31 : decode cX11_type 31 = .ok (.getfield 53, 3) := by decide +kernel
theorem dX11_type_34 : decode cX11_type 34 = .ok (.aload_n 0, 1) := by decide +kernel
theorem dX11_type_35 : decode cX11_type 35 = .ok (.getfield 126, 3) := by decide +kernel
theorem dX11_type_38 : decode cX11_type 38 = .ok (.iload_n 1, 1) := by decide +kernel
theorem dX11_type_39 : decode cX11_type 39 = .ok (.iastore, 1) := by decide +kernel
theorem dX11_type_40 : decode cX11_type 40 = .ok (.aload_n 0, 1) := by decide +kernel
theorem dX11_type_41 : decode cX11_type 41 = .ok (.dup, 1) := by decide +kernel
theorem dX11_type_42 : decode cX11_type 42 = .ok (.getfield 126, 3) := by decide +kernel
theorem dX11_type_45 : decode cX11_type 45 = .ok (.iconst 1, 1) := by decide +kernel
theorem dX11_type_46 : decode cX11_type 46 = .ok (.iadd, 1) := by decide +kernel
theorem dX11_type_47 : decode cX11_type 47 = .ok (.putfield 126, 3) := by decide +kernel
theorem dX11_type_50 : decode cX11_type 50 = .ok (.aload_n 0, 1) := by decide +kernel
theorem dX11_type_51 : decode cX11_type 51 = .ok (.getfield 126, 3) := by decide +kernel
theorem dX11_type_54 : decode cX11_type 54 = .ok (.ireturn, 1) := by decide +kernel
theorem dX11_clear_0 : decode cX11_clear 0 = .ok (.aload_n 0, 1) := by decide +kernel
theorem dX11_clear_1 : decode cX11_clear 1 = .ok (.iconst 0, 1) := by decide +kernel
theorem dX11_clear_2 : decode cX11_clear 2 = .ok (.putfield 104, 3) := by decide +kernel
theorem dX11_clear_5 : decode cX11_clear 5 = .ok (.aload_n 0, 1) := by decide +kernel
theorem dX11_clear_6 : decode cX11_clear 6 = .ok (.getfield 126, 3) := by decide +kernel
theorem dX11_clear_9 : decode cX11_clear 9 = .ok (.istore_n 1, 1) := by decide +kernel
theorem dX11_clear_10 : decode cX11_clear 10 = .ok (.aload_n 0, 1) := by decide +kernel
theorem dX11_clear_11 : decode cX11_clear 11 = .ok (.iconst 0, 1) := by decide +kernel
theorem dX11_clear_12 : decode cX11_clear 12 = .ok (.putfield 126, 3) := by decide +kernel
theorem dX11_clear_15 : decode cX11_clear 15 = .ok (.iload_n 1, 1) := by decide +kernel
theorem dX11_clear_16 : decode cX11_clear 16 = .ok (.ireturn, 1) := by decide +kernel
theorem dX11_takes_0 : decode cX11_takes 0 = .ok (.aload_n 0, 1) := by decide +kernel
theorem dX11_takes_1 : decode cX11_takes 1 = .ok (.getfield 129, 3) := by decide +kernel
theorem dX11_takes_4 : decode cX11_takes 4 = .ok (.aload_n 0, 1) := by decide +kernel
theorem dX11_takes_5 : decode cX11_takes 5 = .ok (.getfield 126, 3) := by decide +kernel
theorem dX11_takes_8 : decode cX11_takes 8 = .ok (.if_icmp .ge 30, 3) := by decide +kernel
theorem dX11_takes_11 : decode cX11_takes 11 = .ok (.aload_n 0, 1) := by decide +kernel
theorem dX11_takes_12 : decode cX11_takes 12 = .ok (.getfield 53, 3) := by decide +kernel
theorem dX11_takes_15 : decode cX11_takes 15 = .ok (.aload_n 0, 1) := by decide +kernel
theorem dX11_takes_16 : decode cX11_takes 16 = .ok (.getfield 129, 3) := by decide +kernel
theorem dX11_takes_19 : decode cX11_takes 19 = .ok (.iaload, 1) := by decide +kernel
theorem dX11_takes_20 : decode cX11_takes 20 = .ok (.bipush 32, 2) := by decide +kernel
theorem dX11_takes_22 : decode cX11_takes 22 = .ok (.if_icmp .ne 16, 3) := by decide +kernel
theorem dX11_takes_25 : decode cX11_takes 25 = .ok (.aload_n 0, 1) := by decide +kernel
theorem dX11_takes_26 : decode cX11_takes 26 = .ok (.dup, 1) := by decide +kernel
theorem dX11_takes_27 : decode cX11_takes 27 = .ok (.getfield 129, 3) := by decide +kernel
theorem dX11_takes_30 : decode cX11_takes 30 = .ok (.iconst 1, 1) := by decide +kernel
theorem dX11_takes_31 : decode cX11_takes 31 = .ok (.iadd, 1) := by decide +kernel
theorem dX11_takes_32 : decode cX11_takes 32 = .ok (.putfield 129, 3) := by decide +kernel
theorem dX11_takes_35 : decode cX11_takes 35 = .ok (.goto (-35), 3) := by decide +kernel
theorem dX11_takes_38 : decode cX11_takes 38 = .ok (.aload_n 0, 1) := by decide +kernel
theorem dX11_takes_39 : decode cX11_takes 39 = .ok (.aload_n 0, 1) := by decide +kernel
theorem dX11_takes_40 : decode cX11_takes 40 = .ok (.getfield 129, 3) := by decide +kernel
theorem dX11_takes_43 : decode cX11_takes 43 = .ok (.putfield 132, 3) := by decide +kernel
theorem dX11_takes_46 : decode cX11_takes 46 = .ok (.aload_n 0, 1) := by decide +kernel
theorem dX11_takes_47 : decode cX11_takes 47 = .ok (.aload_n 0, 1) := by decide +kernel
theorem dX11_takes_48 : decode cX11_takes 48 = .ok (.getfield 129, 3) := by decide +kernel
theorem dX11_takes_51 : decode cX11_takes 51 = .ok (.aload_n 0, 1) := by decide +kernel
theorem dX11_takes_52 : decode cX11_takes 52 = .ok (.getfield 126, 3) := by decide +kernel
theorem dX11_takes_55 : decode cX11_takes 55 = .ok (.if_icmp .ge 15, 3) := by decide +kernel
theorem dX11_takes_58 : decode cX11_takes 58 = .ok (.aload_n 0, 1) := by decide +kernel
theorem dX11_takes_59 : decode cX11_takes 59 = .ok (.getfield 53, 3) := by decide +kernel
theorem dX11_takes_62 : decode cX11_takes 62 = .ok (.aload_n 0, 1) := by decide +kernel
theorem dX11_takes_63 : decode cX11_takes 63 = .ok (.getfield 129, 3) := by decide +kernel
theorem dX11_takes_66 : decode cX11_takes 66 = .ok (.iaload, 1) := by decide +kernel
theorem dX11_takes_67 : decode cX11_takes 67 = .ok (.goto 4, 3) := by decide +kernel
theorem dX11_takes_70 : decode cX11_takes 70 = .ok (.iconst (-1), 1) := by decide +kernel
theorem dX11_takes_71 : decode cX11_takes 71 = .ok (.putfield 135, 3) := by decide +kernel
theorem dX11_takes_74 : decode cX11_takes 74 = .ok (.aload_n 0, 1) := by decide +kernel
theorem dX11_takes_75 : decode cX11_takes 75 = .ok (.dup, 1) := by decide +kernel
theorem dX11_takes_76 : decode cX11_takes 76 = .ok (.getfield 129, 3) := by decide +kernel
theorem dX11_takes_79 : decode cX11_takes 79 = .ok (.aload_n 0, 1) := by decide +kernel
theorem dX11_takes_80 : decode cX11_takes 80 = .ok (.getfield 129, 3) := by decide +kernel
theorem dX11_takes_83 : decode cX11_takes 83 = .ok (.aload_n 0, 1) := by decide +kernel
theorem dX11_takes_84 : decode cX11_takes 84 = .ok (.getfield 126, 3) := by decide +kernel
theorem dX11_takes_87 : decode cX11_takes 87 = .ok (.if_icmp .ge 7, 3) := by decide +kernel
theorem dX11_takes_90 : decode cX11_takes 90 = .ok (.iconst 1, 1) := by decide +kernel
theorem dX11_takes_91 : decode cX11_takes 91 = .ok (.goto 4, 3) := by decide +kernel
theorem dX11_takes_94 : decode cX11_takes 94 = .ok (.iconst 0, 1) := by decide +kernel
theorem dX11_takes_95 : decode cX11_takes 95 = .ok (.iadd, 1) := by decide +kernel
theorem dX11_takes_96 : decode cX11_takes 96 = .ok (.putfield 129, 3) := by decide +kernel
theorem dX11_takes_99 : decode cX11_takes 99 = .ok (.return_, 1) := by decide +kernel
theorem dX11_readsTerm_0 : decode cX11_readsTerm 0 = .ok (.iconst 0, 1) := by decide +kernel
theorem dX11_readsTerm_1 : decode cX11_readsTerm 1 = .ok (.istore_n 1, 1) := by decide +kernel
theorem dX11_readsTerm_2 : decode cX11_readsTerm 2 = .ok (.bipush (-9), 2) := by decide +kernel
theorem dX11_readsTerm_4 : decode cX11_readsTerm 4 = .ok (.istore_n 2, 1) := by decide +kernel
theorem dX11_readsTerm_5 : decode cX11_readsTerm 5 = .ok (.iconst 0, 1) := by decide +kernel
theorem dX11_readsTerm_6 : decode cX11_readsTerm 6 = .ok (.istore_n 3, 1) := by decide +kernel
theorem dX11_readsTerm_7 : decode cX11_readsTerm 7 = .ok (.iload_n 2, 1) := by decide +kernel
theorem dX11_readsTerm_8 : decode cX11_readsTerm 8 = .ok (.bipush (-9), 2) := by decide +kernel
theorem dX11_readsTerm_10 : decode cX11_readsTerm 10 = .ok (.if_icmp .ne 216, 3) := by decide +kernel
theorem dX11_readsTerm_13 : decode cX11_readsTerm 13 = .ok (.iload_n 3, 1) := by decide +kernel
theorem dX11_readsTerm_14 : decode cX11_readsTerm 14 = .ok (.ifCond .ne 212, 3) := by decide +kernel
theorem dX11_readsTerm_17 : decode cX11_readsTerm 17 = .ok (.aload_n 0, 1) := by decide +kernel
theorem dX11_readsTerm_18 : decode cX11_readsTerm 18 = .ok (.invokevirtual 138, 3) := by decide +kernel
theorem dX11_readsTerm_21 : decode cX11_readsTerm 21 = .ok (.aload_n 0, 1) := by decide +kernel
theorem dX11_readsTerm_22 : decode cX11_readsTerm 22 = .ok (.getfield 135, 3) := by decide +kernel
theorem dX11_readsTerm_25 : decode cX11_readsTerm 25 = .ok (.bipush 102, 2) := by decide +kernel
theorem dX11_readsTerm_27 : decode cX11_readsTerm 27 = .ok (.if_icmp .eq 12, 3) := by decide +kernel
theorem dX11_readsTerm_30 : decode cX11_readsTerm 30 = .ok (.aload_n 0, 1) := by decide +kernel
theorem dX11_readsTerm_31 : decode cX11_readsTerm 31 = .ok (.getfield 135, 3) := by decide +kernel
theorem dX11_readsTerm_34 : decode cX11_readsTerm 34 = .ok (.bipush 103, 2) := by decide +kernel
theorem dX11_readsTerm_36 : decode cX11_readsTerm 36 = .ok (.if_icmp .ne 42, 3) := by decide +kernel
theorem dX11_readsTerm_39 : decode cX11_readsTerm 39 = .ok (.iload_n 1, 1) := by decide +kernel
theorem dX11_readsTerm_40 : decode cX11_readsTerm 40 = .ok (.iconst 4, 1) := by decide +kernel
theorem dX11_readsTerm_41 : decode cX11_readsTerm 41 = .ok (.if_icmp .ge 37, 3) := by decide +kernel
theorem dX11_readsTerm_44 : decode cX11_readsTerm 44 = .ok (.aload_n 0, 1) := by decide +kernel
theorem dX11_readsTerm_45 : decode cX11_readsTerm 45 = .ok (.getfield 68, 3) := by decide +kernel
theorem dX11_readsTerm_48 : decode cX11_readsTerm 48 = .ok (.iload_n 1, 1) := by decide +kernel
theorem dX11_readsTerm_49 : decode cX11_readsTerm 49 = .ok (.aload_n 0, 1) := by decide +kernel
theorem dX11_readsTerm_50 : decode cX11_readsTerm 50 = .ok (.getfield 135, 3) := by decide +kernel
theorem dX11_readsTerm_53 : decode cX11_readsTerm 53 = .ok (.bipush 102, 2) := by decide +kernel
theorem dX11_readsTerm_55 : decode cX11_readsTerm 55 = .ok (.if_icmp .ne 7, 3) := by decide +kernel
theorem dX11_readsTerm_58 : decode cX11_readsTerm 58 = .ok (.iconst 4, 1) := by decide +kernel
theorem dX11_readsTerm_59 : decode cX11_readsTerm 59 = .ok (.goto 4, 3) := by decide +kernel
theorem dX11_readsTerm_62 : decode cX11_readsTerm 62 = .ok (.iconst 5, 1) := by decide +kernel
theorem dX11_readsTerm_63 : decode cX11_readsTerm 63 = .ok (.iastore, 1) := by decide +kernel
theorem dX11_readsTerm_64 : decode cX11_readsTerm 64 = .ok (.aload_n 0, 1) := by decide +kernel
theorem dX11_readsTerm_65 : decode cX11_readsTerm 65 = .ok (.getfield 71, 3) := by decide +kernel
theorem dX11_readsTerm_68 : decode cX11_readsTerm 68 = .ok (.iload_n 1, 1) := by decide +kernel
theorem dX11_readsTerm_69 : decode cX11_readsTerm 69 = .ok (.bipush (-9), 2) := by decide +kernel
theorem dX11_readsTerm_71 : decode cX11_readsTerm 71 = .ok (.iastore, 1) := by decide +kernel
theorem dX11_readsTerm_72 : decode cX11_readsTerm 72 = .ok (.iinc 1 1, 3) := by decide +kernel
theorem dX11_readsTerm_75 : decode cX11_readsTerm 75 = .ok (.goto (-68), 3) := by decide +kernel
theorem dX11_readsTerm_78 : decode cX11_readsTerm 78 = .ok (.aload_n 0, 1) := by decide +kernel
theorem dX11_readsTerm_79 : decode cX11_readsTerm 79 = .ok (.getfield 135, 3) := by decide +kernel
theorem dX11_readsTerm_82 : decode cX11_readsTerm 82 = .ok (.bipush 97, 2) := by decide +kernel
theorem dX11_readsTerm_84 : decode cX11_readsTerm 84 = .ok (.bipush 100, 2) := by decide +kernel
theorem dX11_readsTerm_86 : decode cX11_readsTerm 86 = .ok (.invokestatic 122, 3) := by decide +kernel
theorem dX11_readsTerm_89 : decode cX11_readsTerm 89 = .ok (.ifCond .eq 132, 3) := by decide +kernel
theorem dX11_readsTerm_92 : decode cX11_readsTerm 92 = .ok (.aload_n 0, 1) := by decide +kernel
theorem dX11_readsTerm_93 : decode cX11_readsTerm 93 = .ok (.aload_n 0, 1) := by decide +kernel
theorem dX11_readsTerm_94 : decode cX11_readsTerm 94 = .ok (.getfield 135, 3) := by decide +kernel
theorem dX11_readsTerm_97 : decode cX11_readsTerm 97 = .ok (.bipush 97, 2) := by decide +kernel
theorem dX11_readsTerm_99 : decode cX11_readsTerm 99 = .ok (.isub, 1) := by decide +kernel
theorem dX11_readsTerm_100 : decode cX11_readsTerm 100 = .ok (.bipush (-9), 2) := by decide +kernel
theorem dX11_readsTerm_102 : decode cX11_readsTerm 102 = .ok (.bipush (-9), 2) := by decide +kernel
theorem dX11_readsTerm_104 : decode cX11_readsTerm 104 = .ok (.invokevirtual 115, 3) := by decide +kernel
theorem dX11_readsTerm_107 : decode cX11_readsTerm 107 = .ok (.istore 4, 2) := by decide +kernel
theorem dX11_readsTerm_109 : decode cX11_readsTerm 109 = .ok (.iconst 1, 1) := by decide +kernel
theorem dX11_readsTerm_110 : decode cX11_readsTerm 110 = .ok (.istore 5, 2) := by decide +kernel
theorem dX11_readsTerm_112 : decode cX11_readsTerm 112 = .ok (.iload_n 1, 1) := by decide +kernel
theorem dX11_readsTerm_113 : decode cX11_readsTerm 113 = .ok (.ifCond .le 92, 3) := by decide +kernel
theorem dX11_readsTerm_116 : decode cX11_readsTerm 116 = .ok (.iload 5, 2) := by decide +kernel
theorem dX11_readsTerm_118 : decode cX11_readsTerm 118 = .ok (.ifCond .eq 87, 3) := by decide +kernel
theorem dX11_readsTerm_121 : decode cX11_readsTerm 121 = .ok (.aload_n 0, 1) := by decide +kernel
theorem dX11_readsTerm_122 : decode cX11_readsTerm 122 = .ok (.getfield 68, 3) := by decide +kernel
theorem dX11_readsTerm_125 : decode cX11_readsTerm 125 = .ok (.iload_n 1, 1) := by decide +kernel
theorem dX11_readsTerm_126 : decode cX11_readsTerm 126 = .ok (.iconst 1, 1) := by decide +kernel
theorem dX11_readsTerm_127 : decode cX11_readsTerm 127 = .ok (.isub, 1) := by decide +kernel
theorem dX11_readsTerm_128 : decode cX11_readsTerm 128 = .ok (.iaload, 1) := by decide +kernel
theorem dX11_readsTerm_129 : decode cX11_readsTerm 129 = .ok (.iconst 5, 1) := by decide +kernel
theorem dX11_readsTerm_130 : decode cX11_readsTerm 130 = .ok (.if_icmp .ne 32, 3) := by decide +kernel
theorem dX11_readsTerm_133 : decode cX11_readsTerm 133 = .ok (.aload_n 0, 1) := by decide +kernel
theorem dX11_readsTerm_134 : decode cX11_readsTerm 134 = .ok (.getfield 71, 3) := by decide +kernel
theorem dX11_readsTerm_137 : decode cX11_readsTerm 137 = .ok (.iload_n 1, 1) := by decide +kernel
theorem dX11_readsTerm_138 : decode cX11_readsTerm 138 = .ok (.iconst 1, 1) := by decide +kernel
theorem dX11_readsTerm_139 : decode cX11_readsTerm 139 = .ok (.isub, 1) := by decide +kernel
theorem dX11_readsTerm_140 : decode cX11_readsTerm 140 = .ok (.iaload, 1) := by decide +kernel
theorem dX11_readsTerm_141 : decode cX11_readsTerm 141 = .ok (.bipush (-9), 2) := by decide +kernel
theorem dX11_readsTerm_143 : decode cX11_readsTerm 143 = .ok (.if_icmp .ne 19, 3) := by decide +kernel
theorem dX11_readsTerm_146 : decode cX11_readsTerm 146 = .ok (.aload_n 0, 1) := by decide +kernel
theorem dX11_readsTerm_147 : decode cX11_readsTerm 147 = .ok (.getfield 71, 3) := by decide +kernel
theorem dX11_readsTerm_150 : decode cX11_readsTerm 150 = .ok (.iload_n 1, 1) := by decide +kernel
theorem dX11_readsTerm_151 : decode cX11_readsTerm 151 = .ok (.iconst 1, 1) := by decide +kernel
theorem dX11_readsTerm_152 : decode cX11_readsTerm 152 = .ok (.isub, 1) := by decide +kernel
theorem dX11_readsTerm_153 : decode cX11_readsTerm 153 = .ok (.iload 4, 2) := by decide +kernel
theorem dX11_readsTerm_155 : decode cX11_readsTerm 155 = .ok (.iastore, 1) := by decide +kernel
theorem dX11_readsTerm_156 : decode cX11_readsTerm 156 = .ok (.iconst 0, 1) := by decide +kernel
theorem dX11_readsTerm_157 : decode cX11_readsTerm 157 = .ok (.istore 5, 2) := by decide +kernel
theorem dX11_readsTerm_159 : decode cX11_readsTerm 159 = .ok (.goto (-47), 3) := by decide +kernel
theorem dX11_readsTerm_162 : decode cX11_readsTerm 162 = .ok (.iinc 1 (-1), 3) := by decide +kernel
theorem dX11_readsTerm_165 : decode cX11_readsTerm 165 = .ok (.aload_n 0, 1) := by decide +kernel
theorem dX11_readsTerm_166 : decode cX11_readsTerm 166 = .ok (.getfield 68, 3) := by decide +kernel
theorem dX11_readsTerm_169 : decode cX11_readsTerm 169 = .ok (.iload_n 1, 1) := by decide +kernel
theorem dX11_readsTerm_170 : decode cX11_readsTerm 170 = .ok (.iaload, 1) := by decide +kernel
theorem dX11_readsTerm_171 : decode cX11_readsTerm 171 = .ok (.iconst 4, 1) := by decide +kernel
theorem dX11_readsTerm_172 : decode cX11_readsTerm 172 = .ok (.if_icmp .ne 15, 3) := by decide +kernel
theorem dX11_readsTerm_175 : decode cX11_readsTerm 175 = .ok (.aload_n 0, 1) := by decide +kernel
theorem dX11_readsTerm_176 : decode cX11_readsTerm 176 = .ok (.iconst 4, 1) := by decide +kernel
theorem dX11_readsTerm_177 : decode cX11_readsTerm 177 = .ok (.iload 4, 2) := by decide +kernel
theorem dX11_readsTerm_179 : decode cX11_readsTerm 179 = .ok (.bipush (-9), 2) := by decide +kernel
theorem dX11_readsTerm_181 : decode cX11_readsTerm 181 = .ok (.invokevirtual 115, 3) := by decide +kernel
theorem dX11_readsTerm_184 : decode cX11_readsTerm 184 = .ok (.goto 16, 3) := by decide +kernel
theorem dX11_readsTerm_187 : decode cX11_readsTerm 187 = .ok (.aload_n 0, 1) := by decide +kernel
theorem dX11_readsTerm_188 : decode cX11_readsTerm 188 = .ok (.iconst 5, 1) := by decide +kernel
theorem dX11_readsTerm_189 : decode cX11_readsTerm 189 = .ok (.aload_n 0, 1) := by decide +kernel
theorem dX11_readsTerm_190 : decode cX11_readsTerm 190 = .ok (.getfield 71, 3) := by decide +kernel
theorem dX11_readsTerm_193 : decode cX11_readsTerm 193 = .ok (.iload_n 1, 1) := by decide +kernel
theorem dX11_readsTerm_194 : decode cX11_readsTerm 194 = .ok (.iaload, 1) := by decide +kernel
theorem dX11_readsTerm_195 : decode cX11_readsTerm 195 = .ok (.iload 4, 2) := by decide +kernel
theorem dX11_readsTerm_197 : decode cX11_readsTerm 197 = .ok (.invokevirtual 115, 3) := by decide +kernel
theorem dX11_readsTerm_200 : decode cX11_readsTerm 200 = .ok (.istore 4, 2) := by decide +kernel
theorem dX11_readsTerm_202 : decode cX11_readsTerm 202 = .ok (.goto (-90), 3) := by decide +kernel
theorem dX11_readsTerm_205 : decode cX11_readsTerm 205 = .ok (.iload 5, 2) := by decide +kernel
theorem dX11_readsTerm_207 : decode cX11_readsTerm 207 = .ok (.ifCond .eq 8, 3) := by decide +kernel
theorem dX11_readsTerm_210 : decode cX11_readsTerm 210 = .ok (.iload 4, 2) := by decide +kernel
theorem dX11_readsTerm_212 : decode cX11_readsTerm 212 = .ok (.goto 5, 3) := by decide +kernel
theorem dX11_readsTerm_215 : decode cX11_readsTerm 215 = .ok (.bipush (-9), 2) := by decide +kernel
theorem dX11_readsTerm_217 : decode cX11_readsTerm 217 = .ok (.istore_n 2, 1) := by decide +kernel
theorem dX11_readsTerm_218 : decode cX11_readsTerm 218 = .ok (.goto (-211), 3) := by decide +kernel
theorem dX11_readsTerm_221 : decode cX11_readsTerm 221 = .ok (.iconst 1, 1) := by decide +kernel
theorem dX11_readsTerm_222 : decode cX11_readsTerm 222 = .ok (.istore_n 3, 1) := by decide +kernel
theorem dX11_readsTerm_223 : decode cX11_readsTerm 223 = .ok (.goto (-216), 3) := by decide +kernel
theorem dX11_readsTerm_226 : decode cX11_readsTerm 226 = .ok (.iload_n 2, 1) := by decide +kernel
theorem dX11_readsTerm_227 : decode cX11_readsTerm 227 = .ok (.ireturn, 1) := by decide +kernel
theorem dX11_readsFact_0 : decode cX11_readsFact 0 = .ok (.aload_n 0, 1) := by decide +kernel
theorem dX11_readsFact_1 : decode cX11_readsFact 1 = .ok (.getfield 141, 3) := by decide +kernel
theorem dX11_readsFact_4 : decode cX11_readsFact 4 = .ok (.bipush 6, 2) := by decide +kernel
theorem dX11_readsFact_6 : decode cX11_readsFact 6 = .ok (.if_icmp .ne 5, 3) := by decide +kernel
theorem dX11_readsFact_9 : decode cX11_readsFact 9 = .ok (.iconst 0, 1) := by decide +kernel
theorem dX11_readsFact_10 : decode cX11_readsFact 10 = .ok (.ireturn, 1) := by decide +kernel
theorem dX11_readsFact_11 : decode cX11_readsFact 11 = .ok (.aload_n 0, 1) := by decide +kernel
theorem dX11_readsFact_12 : decode cX11_readsFact 12 = .ok (.getfield 56, 3) := by decide +kernel
theorem dX11_readsFact_15 : decode cX11_readsFact 15 = .ok (.aload_n 0, 1) := by decide +kernel
theorem dX11_readsFact_16 : decode cX11_readsFact 16 = .ok (.getfield 141, 3) := by decide +kernel
theorem dX11_readsFact_19 : decode cX11_readsFact 19 = .ok (.iload_n 1, 1) := by decide +kernel
theorem dX11_readsFact_20 : decode cX11_readsFact 20 = .ok (.bastore, 1) := by decide +kernel
theorem dX11_readsFact_21 : decode cX11_readsFact 21 = .ok (.aload_n 0, 1) := by decide +kernel
theorem dX11_readsFact_22 : decode cX11_readsFact 22 = .ok (.getfield 59, 3) := by decide +kernel
theorem dX11_readsFact_25 : decode cX11_readsFact 25 = .ok (.aload_n 0, 1) := by decide +kernel
theorem dX11_readsFact_26 : decode cX11_readsFact 26 = .ok (.getfield 141, 3) := by decide +kernel
theorem dX11_readsFact_29 : decode cX11_readsFact 29 = .ok (.aload_n 0, 1) := by decide +kernel
theorem dX11_readsFact_30 : decode cX11_readsFact 30 = .ok (.invokevirtual 144, 3) := by decide +kernel
theorem dX11_readsFact_33 : decode cX11_readsFact 33 = .ok (.iastore, 1) := by decide +kernel
theorem dX11_readsFact_34 : decode cX11_readsFact 34 = .ok (.aload_n 0, 1) := by decide +kernel
theorem dX11_readsFact_35 : decode cX11_readsFact 35 = .ok (.getfield 59, 3) := by decide +kernel
theorem dX11_readsFact_38 : decode cX11_readsFact 38 = .ok (.aload_n 0, 1) := by decide +kernel
theorem dX11_readsFact_39 : decode cX11_readsFact 39 = .ok (.getfield 141, 3) := by decide +kernel
theorem dX11_readsFact_42 : decode cX11_readsFact 42 = .ok (.iaload, 1) := by decide +kernel
theorem dX11_readsFact_43 : decode cX11_readsFact 43 = .ok (.bipush (-9), 2) := by decide +kernel
theorem dX11_readsFact_45 : decode cX11_readsFact 45 = .ok (.if_icmp .ne 5, 3) := by decide +kernel
theorem dX11_readsFact_48 : decode cX11_readsFact 48 = .ok (.iconst 0, 1) := by decide +kernel
theorem dX11_readsFact_49 : decode cX11_readsFact 49 = .ok (.ireturn, 1) := by decide +kernel
theorem dX11_readsFact_50 : decode cX11_readsFact 50 = .ok (.aload_n 0, 1) := by decide +kernel
theorem dX11_readsFact_51 : decode cX11_readsFact 51 = .ok (.getfield 62, 3) := by decide +kernel
theorem dX11_readsFact_54 : decode cX11_readsFact 54 = .ok (.aload_n 0, 1) := by decide +kernel
theorem dX11_readsFact_55 : decode cX11_readsFact 55 = .ok (.getfield 141, 3) := by decide +kernel
theorem dX11_readsFact_58 : decode cX11_readsFact 58 = .ok (.aload_n 0, 1) := by decide +kernel
theorem dX11_readsFact_59 : decode cX11_readsFact 59 = .ok (.invokevirtual 144, 3) := by decide +kernel
theorem dX11_readsFact_62 : decode cX11_readsFact 62 = .ok (.iastore, 1) := by decide +kernel
theorem dX11_readsFact_63 : decode cX11_readsFact 63 = .ok (.aload_n 0, 1) := by decide +kernel
theorem dX11_readsFact_64 : decode cX11_readsFact 64 = .ok (.getfield 62, 3) := by decide +kernel
theorem dX11_readsFact_67 : decode cX11_readsFact 67 = .ok (.aload_n 0, 1) := by decide +kernel
theorem dX11_readsFact_68 : decode cX11_readsFact 68 = .ok (.getfield 141, 3) := by decide +kernel
theorem dX11_readsFact_71 : decode cX11_readsFact 71 = .ok (.iaload, 1) := by decide +kernel
theorem dX11_readsFact_72 : decode cX11_readsFact 72 = .ok (.bipush (-9), 2) := by decide +kernel
theorem dX11_readsFact_74 : decode cX11_readsFact 74 = .ok (.if_icmp .ne 5, 3) := by decide +kernel
theorem dX11_readsFact_77 : decode cX11_readsFact 77 = .ok (.iconst 0, 1) := by decide +kernel
theorem dX11_readsFact_78 : decode cX11_readsFact 78 = .ok (.ireturn, 1) := by decide +kernel
theorem dX11_readsFact_79 : decode cX11_readsFact 79 = .ok (.aload_n 0, 1) := by decide +kernel
theorem dX11_readsFact_80 : decode cX11_readsFact 80 = .ok (.dup, 1) := by decide +kernel
theorem dX11_readsFact_81 : decode cX11_readsFact 81 = .ok (.getfield 141, 3) := by decide +kernel
theorem dX11_readsFact_84 : decode cX11_readsFact 84 = .ok (.iconst 1, 1) := by decide +kernel
theorem dX11_readsFact_85 : decode cX11_readsFact 85 = .ok (.iadd, 1) := by decide +kernel
theorem dX11_readsFact_86 : decode cX11_readsFact 86 = .ok (.putfield 141, 3) := by decide +kernel
theorem dX11_readsFact_89 : decode cX11_readsFact 89 = .ok (.iconst 1, 1) := by decide +kernel
theorem dX11_readsFact_90 : decode cX11_readsFact 90 = .ok (.ireturn, 1) := by decide +kernel
theorem dX11_readsInstruction_0 : decode cX11_readsInstruction 0 = .ok (.aload_n 0, 1) := by decide +kernel
theorem dX11_readsInstruction_1 : decode cX11_readsInstruction 1 = .ok (.getfield 148, 3) := by decide +kernel
theorem dX11_readsInstruction_4 : decode cX11_readsInstruction 4 = .ok (.bipush 6, 2) := by decide +kernel
theorem dX11_readsInstruction_6 : decode cX11_readsInstruction 6 = .ok (.if_icmp .ne 5, 3) := by decide +kernel
theorem dX11_readsInstruction_9 : decode cX11_readsInstruction 9 = .ok (.iconst 0, 1) := by decide +kernel
theorem dX11_readsInstruction_10 : decode cX11_readsInstruction 10 = .ok (.ireturn, 1) := by decide +kernel
theorem dX11_readsInstruction_11 : decode cX11_readsInstruction 11 = .ok (.iconst 4, 1) := by decide +kernel
theorem dX11_readsInstruction_12 : decode cX11_readsInstruction 12 = .ok (.aload_n 0, 1) := by decide +kernel
theorem dX11_readsInstruction_13 : decode cX11_readsInstruction 13 = .ok (.getfield 148, 3) := by decide +kernel
theorem dX11_readsInstruction_16 : decode cX11_readsInstruction 16 = .ok (.imul, 1) := by decide +kernel
theorem dX11_readsInstruction_17 : decode cX11_readsInstruction 17 = .ok (.istore_n 2, 1) := by decide +kernel
theorem dX11_readsInstruction_18 : decode cX11_readsInstruction 18 = .ok (.aload_n 0, 1) := by decide +kernel
theorem dX11_readsInstruction_19 : decode cX11_readsInstruction 19 = .ok (.getfield 65, 3) := by decide +kernel
theorem dX11_readsInstruction_22 : decode cX11_readsInstruction 22 = .ok (.iload_n 2, 1) := by decide +kernel
theorem dX11_readsInstruction_23 : decode cX11_readsInstruction 23 = .ok (.iload_n 1, 1) := by decide +kernel
theorem dX11_readsInstruction_24 : decode cX11_readsInstruction 24 = .ok (.iastore, 1) := by decide +kernel
theorem dX11_readsInstruction_25 : decode cX11_readsInstruction 25 = .ok (.iconst 1, 1) := by decide +kernel
theorem dX11_readsInstruction_26 : decode cX11_readsInstruction 26 = .ok (.istore_n 3, 1) := by decide +kernel
theorem dX11_readsInstruction_27 : decode cX11_readsInstruction 27 = .ok (.iload_n 3, 1) := by decide +kernel
theorem dX11_readsInstruction_28 : decode cX11_readsInstruction 28 = .ok (.iconst 4, 1) := by decide +kernel
theorem dX11_readsInstruction_29 : decode cX11_readsInstruction 29 = .ok (.if_icmp .ge 64, 3) := by decide +kernel
theorem dX11_readsInstruction_32 : decode cX11_readsInstruction 32 = .ok (.aload_n 0, 1) := by decide +kernel
theorem dX11_readsInstruction_33 : decode cX11_readsInstruction 33 = .ok (.getfield 65, 3) := by decide +kernel
theorem dX11_readsInstruction_36 : decode cX11_readsInstruction 36 = .ok (.iload_n 2, 1) := by decide +kernel
theorem dX11_readsInstruction_37 : decode cX11_readsInstruction 37 = .ok (.iload_n 3, 1) := by decide +kernel
theorem dX11_readsInstruction_38 : decode cX11_readsInstruction 38 = .ok (.iadd, 1) := by decide +kernel
theorem dX11_readsInstruction_39 : decode cX11_readsInstruction 39 = .ok (.iconst 0, 1) := by decide +kernel
theorem dX11_readsInstruction_40 : decode cX11_readsInstruction 40 = .ok (.iastore, 1) := by decide +kernel
theorem dX11_readsInstruction_41 : decode cX11_readsInstruction 41 = .ok (.iload_n 1, 1) := by decide +kernel
theorem dX11_readsInstruction_42 : decode cX11_readsInstruction 42 = .ok (.ifCond .le 45, 3) := by decide +kernel
theorem dX11_readsInstruction_45 : decode cX11_readsInstruction 45 = .ok (.iload_n 3, 1) := by decide +kernel
theorem dX11_readsInstruction_46 : decode cX11_readsInstruction 46 = .ok (.iload_n 1, 1) := by decide +kernel
theorem dX11_readsInstruction_47 : decode cX11_readsInstruction 47 = .ok (.iconst 2, 1) := by decide +kernel
theorem dX11_readsInstruction_48 : decode cX11_readsInstruction 48 = .ok (.iadd, 1) := by decide +kernel
theorem dX11_readsInstruction_49 : decode cX11_readsInstruction 49 = .ok (.if_icmp .ge 38, 3) := by decide +kernel
theorem dX11_readsInstruction_52 : decode cX11_readsInstruction 52 = .ok (.aload_n 0, 1) := by decide +kernel
theorem dX11_readsInstruction_53 : decode cX11_readsInstruction 53 = .ok (.invokevirtual 138, 3) := by decide +kernel
theorem dX11_readsInstruction_56 : decode cX11_readsInstruction 56 = .ok (.aload_n 0, 1) := by decide +kernel
theorem dX11_readsInstruction_57 : decode cX11_readsInstruction 57 = .ok (.getfield 135, 3) := by decide +kernel
theorem dX11_readsInstruction_60 : decode cX11_readsInstruction 60 = .ok (.bipush 48, 2) := by decide +kernel
theorem dX11_readsInstruction_62 : decode cX11_readsInstruction 62 = .ok (.bipush 51, 2) := by decide +kernel
theorem dX11_readsInstruction_64 : decode cX11_readsInstruction 64 = .ok (.invokestatic 122, 3) := by decide +kernel
theorem dX11_readsInstruction_67 : decode cX11_readsInstruction 67 = .ok (.ifCond .ne 5, 3) := by decide +kernel
theorem dX11_readsInstruction_70 : decode cX11_readsInstruction 70 = .ok (.iconst 0, 1) := by decide +kernel
theorem dX11_readsInstruction_71 : decode cX11_readsInstruction 71 = .ok (.ireturn, 1) := by decide +kernel
theorem dX11_readsInstruction_72 : decode cX11_readsInstruction 72 = .ok (.aload_n 0, 1) := by decide +kernel
theorem dX11_readsInstruction_73 : decode cX11_readsInstruction 73 = .ok (.getfield 65, 3) := by decide +kernel
theorem dX11_readsInstruction_76 : decode cX11_readsInstruction 76 = .ok (.iload_n 2, 1) := by decide +kernel
theorem dX11_readsInstruction_77 : decode cX11_readsInstruction 77 = .ok (.iload_n 3, 1) := by decide +kernel
theorem dX11_readsInstruction_78 : decode cX11_readsInstruction 78 = .ok (.iadd, 1) := by decide +kernel
theorem dX11_readsInstruction_79 : decode cX11_readsInstruction 79 = .ok (.aload_n 0, 1) := by decide +kernel
theorem dX11_readsInstruction_80 : decode cX11_readsInstruction 80 = .ok (.getfield 135, 3) := by decide +kernel
theorem dX11_readsInstruction_83 : decode cX11_readsInstruction 83 = .ok (.bipush 48, 2) := by decide +kernel
theorem dX11_readsInstruction_85 : decode cX11_readsInstruction 85 = .ok (.isub, 1) := by decide +kernel
theorem dX11_readsInstruction_86 : decode cX11_readsInstruction 86 = .ok (.iastore, 1) := by decide +kernel
theorem dX11_readsInstruction_87 : decode cX11_readsInstruction 87 = .ok (.iinc 3 1, 3) := by decide +kernel
theorem dX11_readsInstruction_90 : decode cX11_readsInstruction 90 = .ok (.goto (-63), 3) := by decide +kernel
theorem dX11_readsInstruction_93 : decode cX11_readsInstruction 93 = .ok (.aload_n 0, 1) := by decide +kernel
theorem dX11_readsInstruction_94 : decode cX11_readsInstruction 94 = .ok (.dup, 1) := by decide +kernel
theorem dX11_readsInstruction_95 : decode cX11_readsInstruction 95 = .ok (.getfield 148, 3) := by decide +kernel
theorem dX11_readsInstruction_98 : decode cX11_readsInstruction 98 = .ok (.iconst 1, 1) := by decide +kernel
theorem dX11_readsInstruction_99 : decode cX11_readsInstruction 99 = .ok (.iadd, 1) := by decide +kernel
theorem dX11_readsInstruction_100 : decode cX11_readsInstruction 100 = .ok (.putfield 148, 3) := by decide +kernel
theorem dX11_readsInstruction_103 : decode cX11_readsInstruction 103 = .ok (.iconst 1, 1) := by decide +kernel
theorem dX11_readsInstruction_104 : decode cX11_readsInstruction 104 = .ok (.ireturn, 1) := by decide +kernel
theorem dX11_item_0 : decode cX11_item 0 = .ok (.aload_n 0, 1) := by decide +kernel
theorem dX11_item_1 : decode cX11_item 1 = .ok (.getfield 135, 3) := by decide +kernel
theorem dX11_item_4 : decode cX11_item 4 = .ok (.lookupswitch 82 #[(33, 58), (61, 52), (110, 64), (111, 76), (117, 70)], 52) := by decide +kernel
theorem dX11_item_56 : decode cX11_item 56 = .ok (.aload_n 0, 1) := by decide +kernel
theorem dX11_item_57 : decode cX11_item 57 = .ok (.iconst 0, 1) := by decide +kernel
theorem dX11_item_58 : decode cX11_item 58 = .ok (.invokevirtual 151, 3) := by decide +kernel
theorem dX11_item_61 : decode cX11_item 61 = .ok (.ireturn, 1) := by decide +kernel
theorem dX11_item_62 : decode cX11_item 62 = .ok (.aload_n 0, 1) := by decide +kernel
theorem dX11_item_63 : decode cX11_item 63 = .ok (.iconst 1, 1) := by decide +kernel
theorem dX11_item_64 : decode cX11_item 64 = .ok (.invokevirtual 151, 3) := by decide +kernel
theorem dX11_item_67 : decode cX11_item 67 = .ok (.ireturn, 1) := by decide +kernel
theorem dX11_item_68 : decode cX11_item 68 = .ok (.aload_n 0, 1) := by decide +kernel
theorem dX11_item_69 : decode cX11_item 69 = .ok (.iconst 0, 1) := by decide +kernel
theorem dX11_item_70 : decode cX11_item 70 = .ok (.invokevirtual 155, 3) := by decide +kernel
theorem dX11_item_73 : decode cX11_item 73 = .ok (.ireturn, 1) := by decide +kernel
theorem dX11_item_74 : decode cX11_item 74 = .ok (.aload_n 0, 1) := by decide +kernel
theorem dX11_item_75 : decode cX11_item 75 = .ok (.iconst 1, 1) := by decide +kernel
theorem dX11_item_76 : decode cX11_item 76 = .ok (.invokevirtual 155, 3) := by decide +kernel
theorem dX11_item_79 : decode cX11_item 79 = .ok (.ireturn, 1) := by decide +kernel
theorem dX11_item_80 : decode cX11_item 80 = .ok (.aload_n 0, 1) := by decide +kernel
theorem dX11_item_81 : decode cX11_item 81 = .ok (.iconst 2, 1) := by decide +kernel
theorem dX11_item_82 : decode cX11_item 82 = .ok (.invokevirtual 155, 3) := by decide +kernel
theorem dX11_item_85 : decode cX11_item 85 = .ok (.ireturn, 1) := by decide +kernel
theorem dX11_item_86 : decode cX11_item 86 = .ok (.iconst 0, 1) := by decide +kernel
theorem dX11_item_87 : decode cX11_item 87 = .ok (.ireturn, 1) := by decide +kernel
theorem dX11_begins_0 : decode cX11_begins 0 = .ok (.aload_n 0, 1) := by decide +kernel
theorem dX11_begins_1 : decode cX11_begins 1 = .ok (.invokevirtual 159, 3) := by decide +kernel
theorem dX11_begins_4 : decode cX11_begins 4 = .ok (.aload_n 0, 1) := by decide +kernel
theorem dX11_begins_5 : decode cX11_begins 5 = .ok (.iconst 0, 1) := by decide +kernel
theorem dX11_begins_6 : decode cX11_begins 6 = .ok (.putfield 141, 3) := by decide +kernel
theorem dX11_begins_9 : decode cX11_begins 9 = .ok (.aload_n 0, 1) := by decide +kernel
theorem dX11_begins_10 : decode cX11_begins 10 = .ok (.iconst 0, 1) := by decide +kernel
theorem dX11_begins_11 : decode cX11_begins 11 = .ok (.putfield 148, 3) := by decide +kernel
theorem dX11_begins_14 : decode cX11_begins 14 = .ok (.return_, 1) := by decide +kernel
theorem dX11_becomes_0 : decode cX11_becomes 0 = .ok (.aload_n 0, 1) := by decide +kernel
theorem dX11_becomes_1 : decode cX11_becomes 1 = .ok (.aload_n 0, 1) := by decide +kernel
theorem dX11_becomes_2 : decode cX11_becomes 2 = .ok (.getfield 112, 3) := by decide +kernel
theorem dX11_becomes_5 : decode cX11_becomes 5 = .ok (.putfield 119, 3) := by decide +kernel
theorem dX11_becomes_8 : decode cX11_becomes 8 = .ok (.aload_n 0, 1) := by decide +kernel
theorem dX11_becomes_9 : decode cX11_becomes 9 = .ok (.aload_n 0, 1) := by decide +kernel
theorem dX11_becomes_10 : decode cX11_becomes 10 = .ok (.getfield 141, 3) := by decide +kernel
theorem dX11_becomes_13 : decode cX11_becomes 13 = .ok (.putfield 162, 3) := by decide +kernel
theorem dX11_becomes_16 : decode cX11_becomes 16 = .ok (.iconst 0, 1) := by decide +kernel
theorem dX11_becomes_17 : decode cX11_becomes 17 = .ok (.istore_n 1, 1) := by decide +kernel
theorem dX11_becomes_18 : decode cX11_becomes 18 = .ok (.iload_n 1, 1) := by decide +kernel
theorem dX11_becomes_19 : decode cX11_becomes 19 = .ok (.bipush 6, 2) := by decide +kernel
theorem dX11_becomes_21 : decode cX11_becomes 21 = .ok (.if_icmp .ge 45, 3) := by decide +kernel
theorem dX11_becomes_24 : decode cX11_becomes 24 = .ok (.aload_n 0, 1) := by decide +kernel
theorem dX11_becomes_25 : decode cX11_becomes 25 = .ok (.getfield 7, 3) := by decide +kernel
theorem dX11_becomes_28 : decode cX11_becomes 28 = .ok (.iload_n 1, 1) := by decide +kernel
theorem dX11_becomes_29 : decode cX11_becomes 29 = .ok (.aload_n 0, 1) := by decide +kernel
theorem dX11_becomes_30 : decode cX11_becomes 30 = .ok (.getfield 56, 3) := by decide +kernel
theorem dX11_becomes_33 : decode cX11_becomes 33 = .ok (.iload_n 1, 1) := by decide +kernel
theorem dX11_becomes_34 : decode cX11_becomes 34 = .ok (.baload, 1) := by decide +kernel
theorem dX11_becomes_35 : decode cX11_becomes 35 = .ok (.bastore, 1) := by decide +kernel
theorem dX11_becomes_36 : decode cX11_becomes 36 = .ok (.aload_n 0, 1) := by decide +kernel
theorem dX11_becomes_37 : decode cX11_becomes 37 = .ok (.getfield 13, 3) := by decide +kernel
theorem dX11_becomes_40 : decode cX11_becomes 40 = .ok (.iload_n 1, 1) := by decide +kernel
theorem dX11_becomes_41 : decode cX11_becomes 41 = .ok (.aload_n 0, 1) := by decide +kernel
theorem dX11_becomes_42 : decode cX11_becomes 42 = .ok (.getfield 59, 3) := by decide +kernel
theorem dX11_becomes_45 : decode cX11_becomes 45 = .ok (.iload_n 1, 1) := by decide +kernel
theorem dX11_becomes_46 : decode cX11_becomes 46 = .ok (.iaload, 1) := by decide +kernel
theorem dX11_becomes_47 : decode cX11_becomes 47 = .ok (.iastore, 1) := by decide +kernel
theorem dX11_becomes_48 : decode cX11_becomes 48 = .ok (.aload_n 0, 1) := by decide +kernel
theorem dX11_becomes_49 : decode cX11_becomes 49 = .ok (.getfield 17, 3) := by decide +kernel
theorem dX11_becomes_52 : decode cX11_becomes 52 = .ok (.iload_n 1, 1) := by decide +kernel
theorem dX11_becomes_53 : decode cX11_becomes 53 = .ok (.aload_n 0, 1) := by decide +kernel
theorem dX11_becomes_54 : decode cX11_becomes 54 = .ok (.getfield 62, 3) := by decide +kernel
theorem dX11_becomes_57 : decode cX11_becomes 57 = .ok (.iload_n 1, 1) := by decide +kernel
theorem dX11_becomes_58 : decode cX11_becomes 58 = .ok (.iaload, 1) := by decide +kernel
theorem dX11_becomes_59 : decode cX11_becomes 59 = .ok (.iastore, 1) := by decide +kernel
theorem dX11_becomes_60 : decode cX11_becomes 60 = .ok (.iinc 1 1, 3) := by decide +kernel
theorem dX11_becomes_63 : decode cX11_becomes 63 = .ok (.goto (-45), 3) := by decide +kernel
theorem dX11_becomes_66 : decode cX11_becomes 66 = .ok (.aload_n 0, 1) := by decide +kernel
theorem dX11_becomes_67 : decode cX11_becomes 67 = .ok (.getfield 20, 3) := by decide +kernel
theorem dX11_becomes_70 : decode cX11_becomes 70 = .ok (.iconst 0, 1) := by decide +kernel
theorem dX11_becomes_71 : decode cX11_becomes 71 = .ok (.aload_n 0, 1) := by decide +kernel
theorem dX11_becomes_72 : decode cX11_becomes 72 = .ok (.getfield 148, 3) := by decide +kernel
theorem dX11_becomes_75 : decode cX11_becomes 75 = .ok (.iastore, 1) := by decide +kernel
theorem dX11_becomes_76 : decode cX11_becomes 76 = .ok (.iconst 0, 1) := by decide +kernel
theorem dX11_becomes_77 : decode cX11_becomes 77 = .ok (.istore_n 1, 1) := by decide +kernel
theorem dX11_becomes_78 : decode cX11_becomes 78 = .ok (.iload_n 1, 1) := by decide +kernel
theorem dX11_becomes_79 : decode cX11_becomes 79 = .ok (.bipush 24, 2) := by decide +kernel
theorem dX11_becomes_81 : decode cX11_becomes 81 = .ok (.if_icmp .ge 37, 3) := by decide +kernel
theorem dX11_becomes_84 : decode cX11_becomes 84 = .ok (.aload_n 0, 1) := by decide +kernel
theorem dX11_becomes_85 : decode cX11_becomes 85 = .ok (.getfield 20, 3) := by decide +kernel
theorem dX11_becomes_88 : decode cX11_becomes 88 = .ok (.iconst 1, 1) := by decide +kernel
theorem dX11_becomes_89 : decode cX11_becomes 89 = .ok (.iload_n 1, 1) := by decide +kernel
theorem dX11_becomes_90 : decode cX11_becomes 90 = .ok (.iadd, 1) := by decide +kernel
theorem dX11_becomes_91 : decode cX11_becomes 91 = .ok (.iload_n 1, 1) := by decide +kernel
theorem dX11_becomes_92 : decode cX11_becomes 92 = .ok (.iconst 4, 1) := by decide +kernel
theorem dX11_becomes_93 : decode cX11_becomes 93 = .ok (.aload_n 0, 1) := by decide +kernel
theorem dX11_becomes_94 : decode cX11_becomes 94 = .ok (.getfield 148, 3) := by decide +kernel
theorem dX11_becomes_97 : decode cX11_becomes 97 = .ok (.imul, 1) := by decide +kernel
theorem dX11_becomes_98 : decode cX11_becomes 98 = .ok (.if_icmp .ge 12, 3) := by decide +kernel
theorem dX11_becomes_101 : decode cX11_becomes 101 = .ok (.aload_n 0, 1) := by decide +kernel
theorem dX11_becomes_102 : decode cX11_becomes 102 = .ok (.getfield 65, 3) := by decide +kernel
theorem dX11_becomes_105 : decode cX11_becomes 105 = .ok (.iload_n 1, 1) := by decide +kernel
theorem dX11_becomes_106 : decode cX11_becomes 106 = .ok (.iaload, 1) := by decide +kernel
theorem dX11_becomes_107 : decode cX11_becomes 107 = .ok (.goto 4, 3) := by decide +kernel
theorem dX11_becomes_110 : decode cX11_becomes 110 = .ok (.iconst 0, 1) := by decide +kernel
theorem dX11_becomes_111 : decode cX11_becomes 111 = .ok (.iastore, 1) := by decide +kernel
theorem dX11_becomes_112 : decode cX11_becomes 112 = .ok (.iinc 1 1, 3) := by decide +kernel
theorem dX11_becomes_115 : decode cX11_becomes 115 = .ok (.goto (-37), 3) := by decide +kernel
theorem dX11_becomes_118 : decode cX11_becomes 118 = .ok (.aload_n 0, 1) := by decide +kernel
theorem dX11_becomes_119 : decode cX11_becomes 119 = .ok (.getfield 20, 3) := by decide +kernel
theorem dX11_becomes_122 : decode cX11_becomes 122 = .ok (.bipush 25, 2) := by decide +kernel
theorem dX11_becomes_124 : decode cX11_becomes 124 = .ok (.iconst 1, 1) := by decide +kernel
theorem dX11_becomes_125 : decode cX11_becomes 125 = .ok (.aload_n 0, 1) := by decide +kernel
theorem dX11_becomes_126 : decode cX11_becomes 126 = .ok (.getfield 162, 3) := by decide +kernel
theorem dX11_becomes_129 : decode cX11_becomes 129 = .ok (.ishl, 1) := by decide +kernel
theorem dX11_becomes_130 : decode cX11_becomes 130 = .ok (.iconst 1, 1) := by decide +kernel
theorem dX11_becomes_131 : decode cX11_becomes 131 = .ok (.isub, 1) := by decide +kernel
theorem dX11_becomes_132 : decode cX11_becomes 132 = .ok (.iastore, 1) := by decide +kernel
theorem dX11_becomes_133 : decode cX11_becomes 133 = .ok (.aload_n 0, 1) := by decide +kernel
theorem dX11_becomes_134 : decode cX11_becomes 134 = .ok (.getfield 20, 3) := by decide +kernel
theorem dX11_becomes_137 : decode cX11_becomes 137 = .ok (.bipush 26, 2) := by decide +kernel
theorem dX11_becomes_139 : decode cX11_becomes 139 = .ok (.iconst 2, 1) := by decide +kernel
theorem dX11_becomes_140 : decode cX11_becomes 140 = .ok (.iastore, 1) := by decide +kernel
theorem dX11_becomes_141 : decode cX11_becomes 141 = .ok (.aload_n 0, 1) := by decide +kernel
theorem dX11_becomes_142 : decode cX11_becomes 142 = .ok (.getfield 20, 3) := by decide +kernel
theorem dX11_becomes_145 : decode cX11_becomes 145 = .ok (.bipush 27, 2) := by decide +kernel
theorem dX11_becomes_147 : decode cX11_becomes 147 = .ok (.iconst 0, 1) := by decide +kernel
theorem dX11_becomes_148 : decode cX11_becomes 148 = .ok (.iastore, 1) := by decide +kernel
theorem dX11_becomes_149 : decode cX11_becomes 149 = .ok (.aload_n 0, 1) := by decide +kernel
theorem dX11_becomes_150 : decode cX11_becomes 150 = .ok (.getfield 20, 3) := by decide +kernel
theorem dX11_becomes_153 : decode cX11_becomes 153 = .ok (.bipush 28, 2) := by decide +kernel
theorem dX11_becomes_155 : decode cX11_becomes 155 = .ok (.iconst 0, 1) := by decide +kernel
theorem dX11_becomes_156 : decode cX11_becomes 156 = .ok (.iastore, 1) := by decide +kernel
theorem dX11_becomes_157 : decode cX11_becomes 157 = .ok (.aload_n 0, 1) := by decide +kernel
theorem dX11_becomes_158 : decode cX11_becomes 158 = .ok (.iconst 0, 1) := by decide +kernel
theorem dX11_becomes_159 : decode cX11_becomes 159 = .ok (.putfield 165, 3) := by decide +kernel
theorem dX11_becomes_162 : decode cX11_becomes 162 = .ok (.aload_n 0, 1) := by decide +kernel
theorem dX11_becomes_163 : decode cX11_becomes 163 = .ok (.iconst 0, 1) := by decide +kernel
theorem dX11_becomes_164 : decode cX11_becomes 164 = .ok (.putfield 168, 3) := by decide +kernel
theorem dX11_becomes_167 : decode cX11_becomes 167 = .ok (.aload_n 0, 1) := by decide +kernel
theorem dX11_becomes_168 : decode cX11_becomes 168 = .ok (.getfield 29, 3) := by decide +kernel
theorem dX11_becomes_171 : decode cX11_becomes 171 = .ok (.iconst 0, 1) := by decide +kernel
theorem dX11_becomes_172 : decode cX11_becomes 172 = .ok (.iconst 0, 1) := by decide +kernel
theorem dX11_becomes_173 : decode cX11_becomes 173 = .ok (.bastore, 1) := by decide +kernel
theorem dX11_becomes_174 : decode cX11_becomes 174 = .ok (.aload_n 0, 1) := by decide +kernel
theorem dX11_becomes_175 : decode cX11_becomes 175 = .ok (.getfield 29, 3) := by decide +kernel
theorem dX11_becomes_178 : decode cX11_becomes 178 = .ok (.iconst 1, 1) := by decide +kernel
theorem dX11_becomes_179 : decode cX11_becomes 179 = .ok (.iconst 0, 1) := by decide +kernel
theorem dX11_becomes_180 : decode cX11_becomes 180 = .ok (.bastore, 1) := by decide +kernel
theorem dX11_becomes_181 : decode cX11_becomes 181 = .ok (.return_, 1) := by decide +kernel
theorem dX11_machine_0 : decode cX11_machine 0 = .ok (.aload_n 0, 1) := by decide +kernel
theorem dX11_machine_1 : decode cX11_machine 1 = .ok (.iconst 0, 1) := by decide +kernel
theorem dX11_machine_2 : decode cX11_machine 2 = .ok (.putfield 104, 3) := by decide +kernel
theorem dX11_machine_5 : decode cX11_machine 5 = .ok (.aload_n 0, 1) := by decide +kernel
theorem dX11_machine_6 : decode cX11_machine 6 = .ok (.getfield 119, 3) := by decide +kernel
theorem dX11_machine_9 : decode cX11_machine 9 = .ok (.istore_n 1, 1) := by decide +kernel
theorem dX11_machine_10 : decode cX11_machine 10 = .ok (.iconst 0, 1) := by decide +kernel
theorem dX11_machine_11 : decode cX11_machine 11 = .ok (.istore_n 2, 1) := by decide +kernel
theorem dX11_machine_12 : decode cX11_machine 12 = .ok (.iload_n 2, 1) := by decide +kernel
theorem dX11_machine_13 : decode cX11_machine 13 = .ok (.iload_n 1, 1) := by decide +kernel
theorem dX11_machine_14 : decode cX11_machine 14 = .ok (.if_icmp .ge 45, 3) := by decide +kernel
theorem dX11_machine_17 : decode cX11_machine 17 = .ok (.aload_n 0, 1) := by decide +kernel
theorem dX11_machine_18 : decode cX11_machine 18 = .ok (.getfield 74, 3) := by decide +kernel
theorem dX11_machine_21 : decode cX11_machine 21 = .ok (.iload_n 2, 1) := by decide +kernel
theorem dX11_machine_22 : decode cX11_machine 22 = .ok (.aload_n 0, 1) := by decide +kernel
theorem dX11_machine_23 : decode cX11_machine 23 = .ok (.getfield 38, 3) := by decide +kernel
theorem dX11_machine_26 : decode cX11_machine 26 = .ok (.iload_n 2, 1) := by decide +kernel
theorem dX11_machine_27 : decode cX11_machine 27 = .ok (.iaload, 1) := by decide +kernel
theorem dX11_machine_28 : decode cX11_machine 28 = .ok (.iastore, 1) := by decide +kernel
theorem dX11_machine_29 : decode cX11_machine 29 = .ok (.aload_n 0, 1) := by decide +kernel
theorem dX11_machine_30 : decode cX11_machine 30 = .ok (.getfield 77, 3) := by decide +kernel
theorem dX11_machine_33 : decode cX11_machine 33 = .ok (.iload_n 2, 1) := by decide +kernel
theorem dX11_machine_34 : decode cX11_machine 34 = .ok (.aload_n 0, 1) := by decide +kernel
theorem dX11_machine_35 : decode cX11_machine 35 = .ok (.getfield 41, 3) := by decide +kernel
theorem dX11_machine_38 : decode cX11_machine 38 = .ok (.iload_n 2, 1) := by decide +kernel
theorem dX11_machine_39 : decode cX11_machine 39 = .ok (.iaload, 1) := by decide +kernel
theorem dX11_machine_40 : decode cX11_machine 40 = .ok (.iastore, 1) := by decide +kernel
theorem dX11_machine_41 : decode cX11_machine 41 = .ok (.aload_n 0, 1) := by decide +kernel
theorem dX11_machine_42 : decode cX11_machine 42 = .ok (.getfield 80, 3) := by decide +kernel
theorem dX11_machine_45 : decode cX11_machine 45 = .ok (.iload_n 2, 1) := by decide +kernel
theorem dX11_machine_46 : decode cX11_machine 46 = .ok (.aload_n 0, 1) := by decide +kernel
theorem dX11_machine_47 : decode cX11_machine 47 = .ok (.getfield 44, 3) := by decide +kernel
theorem dX11_machine_50 : decode cX11_machine 50 = .ok (.iload_n 2, 1) := by decide +kernel
theorem dX11_machine_51 : decode cX11_machine 51 = .ok (.iaload, 1) := by decide +kernel
theorem dX11_machine_52 : decode cX11_machine 52 = .ok (.iastore, 1) := by decide +kernel
theorem dX11_machine_53 : decode cX11_machine 53 = .ok (.iinc 2 1, 3) := by decide +kernel
theorem dX11_machine_56 : decode cX11_machine 56 = .ok (.goto (-44), 3) := by decide +kernel
theorem dX11_machine_59 : decode cX11_machine 59 = .ok (.aload_n 0, 1) := by decide +kernel
theorem dX11_machine_60 : decode cX11_machine 60 = .ok (.invokevirtual 98, 3) := by decide +kernel
theorem dX11_machine_63 : decode cX11_machine 63 = .ok (.aload_n 0, 1) := by decide +kernel
theorem dX11_machine_64 : decode cX11_machine 64 = .ok (.iconst 0, 1) := by decide +kernel
theorem dX11_machine_65 : decode cX11_machine 65 = .ok (.putfield 129, 3) := by decide +kernel
theorem dX11_machine_68 : decode cX11_machine 68 = .ok (.iconst 0, 1) := by decide +kernel
theorem dX11_machine_69 : decode cX11_machine 69 = .ok (.istore_n 2, 1) := by decide +kernel
theorem dX11_machine_70 : decode cX11_machine 70 = .ok (.aload_n 0, 1) := by decide +kernel
theorem dX11_machine_71 : decode cX11_machine 71 = .ok (.invokevirtual 138, 3) := by decide +kernel
theorem dX11_machine_74 : decode cX11_machine 74 = .ok (.aload_n 0, 1) := by decide +kernel
theorem dX11_machine_75 : decode cX11_machine 75 = .ok (.getfield 135, 3) := by decide +kernel
theorem dX11_machine_78 : decode cX11_machine 78 = .ok (.iconst (-1), 1) := by decide +kernel
theorem dX11_machine_79 : decode cX11_machine 79 = .ok (.if_icmp .eq 109, 3) := by decide +kernel
theorem dX11_machine_82 : decode cX11_machine 82 = .ok (.aload_n 0, 1) := by decide +kernel
theorem dX11_machine_83 : decode cX11_machine 83 = .ok (.invokevirtual 171, 3) := by decide +kernel
theorem dX11_machine_86 : decode cX11_machine 86 = .ok (.istore_n 3, 1) := by decide +kernel
theorem dX11_machine_87 : decode cX11_machine 87 = .ok (.iload_n 3, 1) := by decide +kernel
theorem dX11_machine_88 : decode cX11_machine 88 = .ok (.ifCond .eq 7, 3) := by decide +kernel
theorem dX11_machine_91 : decode cX11_machine 91 = .ok (.aload_n 0, 1) := by decide +kernel
theorem dX11_machine_92 : decode cX11_machine 92 = .ok (.invokevirtual 138, 3) := by decide +kernel
theorem dX11_machine_95 : decode cX11_machine 95 = .ok (.iload_n 3, 1) := by decide +kernel
theorem dX11_machine_96 : decode cX11_machine 96 = .ok (.ifCond .eq 12, 3) := by decide +kernel
theorem dX11_machine_99 : decode cX11_machine 99 = .ok (.aload_n 0, 1) := by decide +kernel
theorem dX11_machine_100 : decode cX11_machine 100 = .ok (.getfield 135, 3) := by decide +kernel
theorem dX11_machine_103 : decode cX11_machine 103 = .ok (.bipush 59, 2) := by decide +kernel
theorem dX11_machine_105 : decode cX11_machine 105 = .ok (.if_icmp .eq 73, 3) := by decide +kernel
theorem dX11_machine_108 : decode cX11_machine 108 = .ok (.iconst 0, 1) := by decide +kernel
theorem dX11_machine_109 : decode cX11_machine 109 = .ok (.istore 4, 2) := by decide +kernel
theorem dX11_machine_111 : decode cX11_machine 111 = .ok (.iload 4, 2) := by decide +kernel
theorem dX11_machine_113 : decode cX11_machine 113 = .ok (.iload_n 1, 1) := by decide +kernel
theorem dX11_machine_114 : decode cX11_machine 114 = .ok (.if_icmp .ge 51, 3) := by decide +kernel
theorem dX11_machine_117 : decode cX11_machine 117 = .ok (.aload_n 0, 1) := by decide +kernel
theorem dX11_machine_118 : decode cX11_machine 118 = .ok (.getfield 38, 3) := by decide +kernel
theorem dX11_machine_121 : decode cX11_machine 121 = .ok (.iload 4, 2) := by decide +kernel
theorem dX11_machine_123 : decode cX11_machine 123 = .ok (.aload_n 0, 1) := by decide +kernel
theorem dX11_machine_124 : decode cX11_machine 124 = .ok (.getfield 74, 3) := by decide +kernel
theorem dX11_machine_127 : decode cX11_machine 127 = .ok (.iload 4, 2) := by decide +kernel
theorem dX11_machine_129 : decode cX11_machine 129 = .ok (.iaload, 1) := by decide +kernel
theorem dX11_machine_130 : decode cX11_machine 130 = .ok (.iastore, 1) := by decide +kernel
theorem dX11_machine_131 : decode cX11_machine 131 = .ok (.aload_n 0, 1) := by decide +kernel
theorem dX11_machine_132 : decode cX11_machine 132 = .ok (.getfield 41, 3) := by decide +kernel
theorem dX11_machine_135 : decode cX11_machine 135 = .ok (.iload 4, 2) := by decide +kernel
theorem dX11_machine_137 : decode cX11_machine 137 = .ok (.aload_n 0, 1) := by decide +kernel
theorem dX11_machine_138 : decode cX11_machine 138 = .ok (.getfield 77, 3) := by decide +kernel
theorem dX11_machine_141 : decode cX11_machine 141 = .ok (.iload 4, 2) := by decide +kernel
theorem dX11_machine_143 : decode cX11_machine 143 = .ok (.iaload, 1) := by decide +kernel
theorem dX11_machine_144 : decode cX11_machine 144 = .ok (.iastore, 1) := by decide +kernel
theorem dX11_machine_145 : decode cX11_machine 145 = .ok (.aload_n 0, 1) := by decide +kernel
theorem dX11_machine_146 : decode cX11_machine 146 = .ok (.getfield 44, 3) := by decide +kernel
theorem dX11_machine_149 : decode cX11_machine 149 = .ok (.iload 4, 2) := by decide +kernel
theorem dX11_machine_151 : decode cX11_machine 151 = .ok (.aload_n 0, 1) := by decide +kernel
