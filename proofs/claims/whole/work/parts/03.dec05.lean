theorem dX11_machine_152 : decode cX11_machine 152 = .ok (.getfield 80, 3) := by decide +kernel
theorem dX11_machine_155 : decode cX11_machine 155 = .ok (.iload 4, 2) := by decide +kernel
theorem dX11_machine_157 : decode cX11_machine 157 = .ok (.iaload, 1) := by decide +kernel
theorem dX11_machine_158 : decode cX11_machine 158 = .ok (.iastore, 1) := by decide +kernel
theorem dX11_machine_159 : decode cX11_machine 159 = .ok (.iinc 4 1, 3) := by decide +kernel
theorem dX11_machine_162 : decode cX11_machine 162 = .ok (.goto (-51), 3) := by decide +kernel
theorem dX11_machine_165 : decode cX11_machine 165 = .ok (.aload_n 0, 1) := by decide +kernel
theorem dX11_machine_166 : decode cX11_machine 166 = .ok (.iload_n 1, 1) := by decide +kernel
theorem dX11_machine_167 : decode cX11_machine 167 = .ok (.putfield 119, 3) := by decide +kernel
theorem dX11_machine_170 : decode cX11_machine 170 = .ok (.bipush (-10), 2) := by decide +kernel
theorem dX11_machine_172 : decode cX11_machine 172 = .ok (.aload_n 0, 1) := by decide +kernel
theorem dX11_machine_173 : decode cX11_machine 173 = .ok (.getfield 132, 3) := by decide +kernel
theorem dX11_machine_176 : decode cX11_machine 176 = .ok (.isub, 1) := by decide +kernel
theorem dX11_machine_177 : decode cX11_machine 177 = .ok (.ireturn, 1) := by decide +kernel
theorem dX11_machine_178 : decode cX11_machine 178 = .ok (.iinc 2 1, 3) := by decide +kernel
theorem dX11_machine_181 : decode cX11_machine 181 = .ok (.aload_n 0, 1) := by decide +kernel
theorem dX11_machine_182 : decode cX11_machine 182 = .ok (.invokevirtual 138, 3) := by decide +kernel
theorem dX11_machine_185 : decode cX11_machine 185 = .ok (.goto (-111), 3) := by decide +kernel
theorem dX11_machine_188 : decode cX11_machine 188 = .ok (.aload_n 0, 1) := by decide +kernel
theorem dX11_machine_189 : decode cX11_machine 189 = .ok (.invokevirtual 101, 3) := by decide +kernel
theorem dX11_machine_192 : decode cX11_machine 192 = .ok (.aload_n 0, 1) := by decide +kernel
theorem dX11_machine_193 : decode cX11_machine 193 = .ok (.iconst 0, 1) := by decide +kernel
theorem dX11_machine_194 : decode cX11_machine 194 = .ok (.putfield 126, 3) := by decide +kernel
theorem dX11_machine_197 : decode cX11_machine 197 = .ok (.iload_n 2, 1) := by decide +kernel
theorem dX11_machine_198 : decode cX11_machine 198 = .ok (.ireturn, 1) := by decide +kernel
theorem dX11_joins_0 : decode cX11_joins 0 = .ok (.aload_n 0, 1) := by decide +kernel
theorem dX11_joins_1 : decode cX11_joins 1 = .ok (.getfield 83, 3) := by decide +kernel
theorem dX11_joins_4 : decode cX11_joins 4 = .ok (.iload_n 1, 1) := by decide +kernel
theorem dX11_joins_5 : decode cX11_joins 5 = .ok (.iaload, 1) := by decide +kernel
theorem dX11_joins_6 : decode cX11_joins 6 = .ok (.istore_n 3, 1) := by decide +kernel
theorem dX11_joins_7 : decode cX11_joins 7 = .ok (.aload_n 0, 1) := by decide +kernel
theorem dX11_joins_8 : decode cX11_joins 8 = .ok (.getfield 83, 3) := by decide +kernel
theorem dX11_joins_11 : decode cX11_joins 11 = .ok (.iload_n 2, 1) := by decide +kernel
theorem dX11_joins_12 : decode cX11_joins 12 = .ok (.iaload, 1) := by decide +kernel
theorem dX11_joins_13 : decode cX11_joins 13 = .ok (.istore 4, 2) := by decide +kernel
theorem dX11_joins_15 : decode cX11_joins 15 = .ok (.iconst 0, 1) := by decide +kernel
theorem dX11_joins_16 : decode cX11_joins 16 = .ok (.istore 5, 2) := by decide +kernel
theorem dX11_joins_18 : decode cX11_joins 18 = .ok (.iload 5, 2) := by decide +kernel
theorem dX11_joins_20 : decode cX11_joins 20 = .ok (.aload_n 0, 1) := by decide +kernel
theorem dX11_joins_21 : decode cX11_joins 21 = .ok (.getfield 112, 3) := by decide +kernel
theorem dX11_joins_24 : decode cX11_joins 24 = .ok (.if_icmp .ge 39, 3) := by decide +kernel
theorem dX11_joins_27 : decode cX11_joins 27 = .ok (.aload_n 0, 1) := by decide +kernel
theorem dX11_joins_28 : decode cX11_joins 28 = .ok (.getfield 83, 3) := by decide +kernel
theorem dX11_joins_31 : decode cX11_joins 31 = .ok (.iload 5, 2) := by decide +kernel
theorem dX11_joins_33 : decode cX11_joins 33 = .ok (.aload_n 0, 1) := by decide +kernel
theorem dX11_joins_34 : decode cX11_joins 34 = .ok (.getfield 83, 3) := by decide +kernel
theorem dX11_joins_37 : decode cX11_joins 37 = .ok (.iload 5, 2) := by decide +kernel
theorem dX11_joins_39 : decode cX11_joins 39 = .ok (.iaload, 1) := by decide +kernel
theorem dX11_joins_40 : decode cX11_joins 40 = .ok (.iload_n 3, 1) := by decide +kernel
theorem dX11_joins_41 : decode cX11_joins 41 = .ok (.if_icmp .ne 8, 3) := by decide +kernel
theorem dX11_joins_44 : decode cX11_joins 44 = .ok (.iload 4, 2) := by decide +kernel
theorem dX11_joins_46 : decode cX11_joins 46 = .ok (.goto 10, 3) := by decide +kernel
theorem dX11_joins_49 : decode cX11_joins 49 = .ok (.aload_n 0, 1) := by decide +kernel
theorem dX11_joins_50 : decode cX11_joins 50 = .ok (.getfield 83, 3) := by decide +kernel
theorem dX11_joins_53 : decode cX11_joins 53 = .ok (.iload 5, 2) := by decide +kernel
theorem dX11_joins_55 : decode cX11_joins 55 = .ok (.iaload, 1) := by decide +kernel
theorem dX11_joins_56 : decode cX11_joins 56 = .ok (.iastore, 1) := by decide +kernel
theorem dX11_joins_57 : decode cX11_joins 57 = .ok (.iinc 5 1, 3) := by decide +kernel
theorem dX11_joins_60 : decode cX11_joins 60 = .ok (.goto (-42), 3) := by decide +kernel
theorem dX11_joins_63 : decode cX11_joins 63 = .ok (.return_, 1) := by decide +kernel
theorem dX11_areParted_0 : decode cX11_areParted 0 = .ok (.aload_n 0, 1) := by decide +kernel
theorem dX11_areParted_1 : decode cX11_areParted 1 = .ok (.getfield 38, 3) := by decide +kernel
theorem dX11_areParted_4 : decode cX11_areParted 4 = .ok (.iload_n 1, 1) := by decide +kernel
theorem dX11_areParted_5 : decode cX11_areParted 5 = .ok (.iaload, 1) := by decide +kernel
theorem dX11_areParted_6 : decode cX11_areParted 6 = .ok (.aload_n 0, 1) := by decide +kernel
theorem dX11_areParted_7 : decode cX11_areParted 7 = .ok (.getfield 38, 3) := by decide +kernel
theorem dX11_areParted_10 : decode cX11_areParted 10 = .ok (.iload_n 2, 1) := by decide +kernel
theorem dX11_areParted_11 : decode cX11_areParted 11 = .ok (.iaload, 1) := by decide +kernel
theorem dX11_areParted_12 : decode cX11_areParted 12 = .ok (.if_icmp .ne 92, 3) := by decide +kernel
theorem dX11_areParted_15 : decode cX11_areParted 15 = .ok (.aload_n 0, 1) := by decide +kernel
theorem dX11_areParted_16 : decode cX11_areParted 16 = .ok (.getfield 38, 3) := by decide +kernel
theorem dX11_areParted_19 : decode cX11_areParted 19 = .ok (.iload_n 1, 1) := by decide +kernel
theorem dX11_areParted_20 : decode cX11_areParted 20 = .ok (.iaload, 1) := by decide +kernel
theorem dX11_areParted_21 : decode cX11_areParted 21 = .ok (.iconst 4, 1) := by decide +kernel
theorem dX11_areParted_22 : decode cX11_areParted 22 = .ok (.if_icmp .lt 82, 3) := by decide +kernel
theorem dX11_areParted_25 : decode cX11_areParted 25 = .ok (.aload_n 0, 1) := by decide +kernel
theorem dX11_areParted_26 : decode cX11_areParted 26 = .ok (.getfield 83, 3) := by decide +kernel
theorem dX11_areParted_29 : decode cX11_areParted 29 = .ok (.iload_n 1, 1) := by decide +kernel
theorem dX11_areParted_30 : decode cX11_areParted 30 = .ok (.iaload, 1) := by decide +kernel
theorem dX11_areParted_31 : decode cX11_areParted 31 = .ok (.aload_n 0, 1) := by decide +kernel
theorem dX11_areParted_32 : decode cX11_areParted 32 = .ok (.getfield 83, 3) := by decide +kernel
theorem dX11_areParted_35 : decode cX11_areParted 35 = .ok (.iload_n 2, 1) := by decide +kernel
theorem dX11_areParted_36 : decode cX11_areParted 36 = .ok (.iaload, 1) := by decide +kernel
theorem dX11_areParted_37 : decode cX11_areParted 37 = .ok (.if_icmp .eq 67, 3) := by decide +kernel
theorem dX11_areParted_40 : decode cX11_areParted 40 = .ok (.aload_n 0, 1) := by decide +kernel
theorem dX11_areParted_41 : decode cX11_areParted 41 = .ok (.getfield 83, 3) := by decide +kernel
theorem dX11_areParted_44 : decode cX11_areParted 44 = .ok (.aload_n 0, 1) := by decide +kernel
theorem dX11_areParted_45 : decode cX11_areParted 45 = .ok (.getfield 41, 3) := by decide +kernel
theorem dX11_areParted_48 : decode cX11_areParted 48 = .ok (.iload_n 1, 1) := by decide +kernel
theorem dX11_areParted_49 : decode cX11_areParted 49 = .ok (.iaload, 1) := by decide +kernel
theorem dX11_areParted_50 : decode cX11_areParted 50 = .ok (.iaload, 1) := by decide +kernel
theorem dX11_areParted_51 : decode cX11_areParted 51 = .ok (.aload_n 0, 1) := by decide +kernel
theorem dX11_areParted_52 : decode cX11_areParted 52 = .ok (.getfield 83, 3) := by decide +kernel
theorem dX11_areParted_55 : decode cX11_areParted 55 = .ok (.aload_n 0, 1) := by decide +kernel
theorem dX11_areParted_56 : decode cX11_areParted 56 = .ok (.getfield 41, 3) := by decide +kernel
theorem dX11_areParted_59 : decode cX11_areParted 59 = .ok (.iload_n 2, 1) := by decide +kernel
theorem dX11_areParted_60 : decode cX11_areParted 60 = .ok (.iaload, 1) := by decide +kernel
theorem dX11_areParted_61 : decode cX11_areParted 61 = .ok (.iaload, 1) := by decide +kernel
theorem dX11_areParted_62 : decode cX11_areParted 62 = .ok (.if_icmp .ne 42, 3) := by decide +kernel
theorem dX11_areParted_65 : decode cX11_areParted 65 = .ok (.aload_n 0, 1) := by decide +kernel
theorem dX11_areParted_66 : decode cX11_areParted 66 = .ok (.getfield 38, 3) := by decide +kernel
theorem dX11_areParted_69 : decode cX11_areParted 69 = .ok (.iload_n 1, 1) := by decide +kernel
theorem dX11_areParted_70 : decode cX11_areParted 70 = .ok (.iaload, 1) := by decide +kernel
theorem dX11_areParted_71 : decode cX11_areParted 71 = .ok (.iconst 4, 1) := by decide +kernel
theorem dX11_areParted_72 : decode cX11_areParted 72 = .ok (.if_icmp .eq 28, 3) := by decide +kernel
theorem dX11_areParted_75 : decode cX11_areParted 75 = .ok (.aload_n 0, 1) := by decide +kernel
theorem dX11_areParted_76 : decode cX11_areParted 76 = .ok (.getfield 83, 3) := by decide +kernel
theorem dX11_areParted_79 : decode cX11_areParted 79 = .ok (.aload_n 0, 1) := by decide +kernel
theorem dX11_areParted_80 : decode cX11_areParted 80 = .ok (.getfield 44, 3) := by decide +kernel
theorem dX11_areParted_83 : decode cX11_areParted 83 = .ok (.iload_n 1, 1) := by decide +kernel
theorem dX11_areParted_84 : decode cX11_areParted 84 = .ok (.iaload, 1) := by decide +kernel
theorem dX11_areParted_85 : decode cX11_areParted 85 = .ok (.iaload, 1) := by decide +kernel
theorem dX11_areParted_86 : decode cX11_areParted 86 = .ok (.aload_n 0, 1) := by decide +kernel
theorem dX11_areParted_87 : decode cX11_areParted 87 = .ok (.getfield 83, 3) := by decide +kernel
theorem dX11_areParted_90 : decode cX11_areParted 90 = .ok (.aload_n 0, 1) := by decide +kernel
theorem dX11_areParted_91 : decode cX11_areParted 91 = .ok (.getfield 44, 3) := by decide +kernel
theorem dX11_areParted_94 : decode cX11_areParted 94 = .ok (.iload_n 2, 1) := by decide +kernel
theorem dX11_areParted_95 : decode cX11_areParted 95 = .ok (.iaload, 1) := by decide +kernel
theorem dX11_areParted_96 : decode cX11_areParted 96 = .ok (.iaload, 1) := by decide +kernel
theorem dX11_areParted_97 : decode cX11_areParted 97 = .ok (.if_icmp .ne 7, 3) := by decide +kernel
theorem dX11_areParted_100 : decode cX11_areParted 100 = .ok (.iconst 1, 1) := by decide +kernel
theorem dX11_areParted_101 : decode cX11_areParted 101 = .ok (.goto 4, 3) := by decide +kernel
theorem dX11_areParted_104 : decode cX11_areParted 104 = .ok (.iconst 0, 1) := by decide +kernel
theorem dX11_areParted_105 : decode cX11_areParted 105 = .ok (.ireturn, 1) := by decide +kernel
theorem dX11_laysSame_0 : decode cX11_laysSame 0 = .ok (.iconst 0, 1) := by decide +kernel
theorem dX11_laysSame_1 : decode cX11_laysSame 1 = .ok (.istore 4, 2) := by decide +kernel
theorem dX11_laysSame_3 : decode cX11_laysSame 3 = .ok (.iload 4, 2) := by decide +kernel
theorem dX11_laysSame_5 : decode cX11_laysSame 5 = .ok (.aload_n 0, 1) := by decide +kernel
theorem dX11_laysSame_6 : decode cX11_laysSame 6 = .ok (.getfield 112, 3) := by decide +kernel
theorem dX11_laysSame_9 : decode cX11_laysSame 9 = .ok (.if_icmp .ge 18, 3) := by decide +kernel
theorem dX11_laysSame_12 : decode cX11_laysSame 12 = .ok (.aload_n 0, 1) := by decide +kernel
theorem dX11_laysSame_13 : decode cX11_laysSame 13 = .ok (.getfield 83, 3) := by decide +kernel
theorem dX11_laysSame_16 : decode cX11_laysSame 16 = .ok (.iload 4, 2) := by decide +kernel
theorem dX11_laysSame_18 : decode cX11_laysSame 18 = .ok (.iload 4, 2) := by decide +kernel
theorem dX11_laysSame_20 : decode cX11_laysSame 20 = .ok (.iastore, 1) := by decide +kernel
theorem dX11_laysSame_21 : decode cX11_laysSame 21 = .ok (.iinc 4 1, 3) := by decide +kernel
theorem dX11_laysSame_24 : decode cX11_laysSame 24 = .ok (.goto (-21), 3) := by decide +kernel
theorem dX11_laysSame_27 : decode cX11_laysSame 27 = .ok (.iconst 0, 1) := by decide +kernel
theorem dX11_laysSame_28 : decode cX11_laysSame 28 = .ok (.istore 4, 2) := by decide +kernel
theorem dX11_laysSame_30 : decode cX11_laysSame 30 = .ok (.iload 4, 2) := by decide +kernel
theorem dX11_laysSame_32 : decode cX11_laysSame 32 = .ok (.aload_n 0, 1) := by decide +kernel
theorem dX11_laysSame_33 : decode cX11_laysSame 33 = .ok (.getfield 162, 3) := by decide +kernel
theorem dX11_laysSame_36 : decode cX11_laysSame 36 = .ok (.if_icmp .ge 46, 3) := by decide +kernel
theorem dX11_laysSame_39 : decode cX11_laysSame 39 = .ok (.iload_n 1, 1) := by decide +kernel
theorem dX11_laysSame_40 : decode cX11_laysSame 40 = .ok (.iload 4, 2) := by decide +kernel
theorem dX11_laysSame_42 : decode cX11_laysSame 42 = .ok (.invokestatic 108, 3) := by decide +kernel
theorem dX11_laysSame_45 : decode cX11_laysSame 45 = .ok (.ifCond .eq 31, 3) := by decide +kernel
theorem dX11_laysSame_48 : decode cX11_laysSame 48 = .ok (.aload_n 0, 1) := by decide +kernel
theorem dX11_laysSame_49 : decode cX11_laysSame 49 = .ok (.getfield 7, 3) := by decide +kernel
theorem dX11_laysSame_52 : decode cX11_laysSame 52 = .ok (.iload 4, 2) := by decide +kernel
theorem dX11_laysSame_54 : decode cX11_laysSame 54 = .ok (.baload, 1) := by decide +kernel
theorem dX11_laysSame_55 : decode cX11_laysSame 55 = .ok (.ifCond .ne 21, 3) := by decide +kernel
theorem dX11_laysSame_58 : decode cX11_laysSame 58 = .ok (.aload_n 0, 1) := by decide +kernel
theorem dX11_laysSame_59 : decode cX11_laysSame 59 = .ok (.aload_n 0, 1) := by decide +kernel
theorem dX11_laysSame_60 : decode cX11_laysSame 60 = .ok (.getfield 13, 3) := by decide +kernel
theorem dX11_laysSame_63 : decode cX11_laysSame 63 = .ok (.iload 4, 2) := by decide +kernel
theorem dX11_laysSame_65 : decode cX11_laysSame 65 = .ok (.iaload, 1) := by decide +kernel
theorem dX11_laysSame_66 : decode cX11_laysSame 66 = .ok (.aload_n 0, 1) := by decide +kernel
theorem dX11_laysSame_67 : decode cX11_laysSame 67 = .ok (.getfield 17, 3) := by decide +kernel
theorem dX11_laysSame_70 : decode cX11_laysSame 70 = .ok (.iload 4, 2) := by decide +kernel
theorem dX11_laysSame_72 : decode cX11_laysSame 72 = .ok (.iaload, 1) := by decide +kernel
theorem dX11_laysSame_73 : decode cX11_laysSame 73 = .ok (.invokevirtual 175, 3) := by decide +kernel
theorem dX11_laysSame_76 : decode cX11_laysSame 76 = .ok (.iinc 4 1, 3) := by decide +kernel
theorem dX11_laysSame_79 : decode cX11_laysSame 79 = .ok (.goto (-49), 3) := by decide +kernel
theorem dX11_laysSame_82 : decode cX11_laysSame 82 = .ok (.aload_n 0, 1) := by decide +kernel
theorem dX11_laysSame_83 : decode cX11_laysSame 83 = .ok (.iload_n 2, 1) := by decide +kernel
theorem dX11_laysSame_84 : decode cX11_laysSame 84 = .ok (.iload_n 3, 1) := by decide +kernel
theorem dX11_laysSame_85 : decode cX11_laysSame 85 = .ok (.invokevirtual 175, 3) := by decide +kernel
theorem dX11_laysSame_88 : decode cX11_laysSame 88 = .ok (.iconst 1, 1) := by decide +kernel
theorem dX11_laysSame_89 : decode cX11_laysSame 89 = .ok (.istore 4, 2) := by decide +kernel
theorem dX11_laysSame_91 : decode cX11_laysSame 91 = .ok (.iload 4, 2) := by decide +kernel
theorem dX11_laysSame_93 : decode cX11_laysSame 93 = .ok (.ifCond .eq 74, 3) := by decide +kernel
theorem dX11_laysSame_96 : decode cX11_laysSame 96 = .ok (.iconst 0, 1) := by decide +kernel
theorem dX11_laysSame_97 : decode cX11_laysSame 97 = .ok (.istore 4, 2) := by decide +kernel
theorem dX11_laysSame_99 : decode cX11_laysSame 99 = .ok (.iconst 0, 1) := by decide +kernel
theorem dX11_laysSame_100 : decode cX11_laysSame 100 = .ok (.istore 5, 2) := by decide +kernel
theorem dX11_laysSame_102 : decode cX11_laysSame 102 = .ok (.iload 5, 2) := by decide +kernel
theorem dX11_laysSame_104 : decode cX11_laysSame 104 = .ok (.aload_n 0, 1) := by decide +kernel
theorem dX11_laysSame_105 : decode cX11_laysSame 105 = .ok (.getfield 112, 3) := by decide +kernel
theorem dX11_laysSame_108 : decode cX11_laysSame 108 = .ok (.aload_n 0, 1) := by decide +kernel
theorem dX11_laysSame_109 : decode cX11_laysSame 109 = .ok (.getfield 112, 3) := by decide +kernel
theorem dX11_laysSame_112 : decode cX11_laysSame 112 = .ok (.imul, 1) := by decide +kernel
theorem dX11_laysSame_113 : decode cX11_laysSame 113 = .ok (.if_icmp .ge 51, 3) := by decide +kernel
theorem dX11_laysSame_116 : decode cX11_laysSame 116 = .ok (.aload_n 0, 1) := by decide +kernel
theorem dX11_laysSame_117 : decode cX11_laysSame 117 = .ok (.iload 5, 2) := by decide +kernel
theorem dX11_laysSame_119 : decode cX11_laysSame 119 = .ok (.aload_n 0, 1) := by decide +kernel
theorem dX11_laysSame_120 : decode cX11_laysSame 120 = .ok (.getfield 112, 3) := by decide +kernel
theorem dX11_laysSame_123 : decode cX11_laysSame 123 = .ok (.idiv, 1) := by decide +kernel
theorem dX11_laysSame_124 : decode cX11_laysSame 124 = .ok (.iload 5, 2) := by decide +kernel
theorem dX11_laysSame_126 : decode cX11_laysSame 126 = .ok (.aload_n 0, 1) := by decide +kernel
theorem dX11_laysSame_127 : decode cX11_laysSame 127 = .ok (.getfield 112, 3) := by decide +kernel
theorem dX11_laysSame_130 : decode cX11_laysSame 130 = .ok (.irem, 1) := by decide +kernel
theorem dX11_laysSame_131 : decode cX11_laysSame 131 = .ok (.invokevirtual 179, 3) := by decide +kernel
theorem dX11_laysSame_134 : decode cX11_laysSame 134 = .ok (.ifCond .eq 24, 3) := by decide +kernel
theorem dX11_laysSame_137 : decode cX11_laysSame 137 = .ok (.aload_n 0, 1) := by decide +kernel
theorem dX11_laysSame_138 : decode cX11_laysSame 138 = .ok (.iload 5, 2) := by decide +kernel
theorem dX11_laysSame_140 : decode cX11_laysSame 140 = .ok (.aload_n 0, 1) := by decide +kernel
theorem dX11_laysSame_141 : decode cX11_laysSame 141 = .ok (.getfield 112, 3) := by decide +kernel
theorem dX11_laysSame_144 : decode cX11_laysSame 144 = .ok (.idiv, 1) := by decide +kernel
theorem dX11_laysSame_145 : decode cX11_laysSame 145 = .ok (.iload 5, 2) := by decide +kernel
theorem dX11_laysSame_147 : decode cX11_laysSame 147 = .ok (.aload_n 0, 1) := by decide +kernel
theorem dX11_laysSame_148 : decode cX11_laysSame 148 = .ok (.getfield 112, 3) := by decide +kernel
theorem dX11_laysSame_151 : decode cX11_laysSame 151 = .ok (.irem, 1) := by decide +kernel
theorem dX11_laysSame_152 : decode cX11_laysSame 152 = .ok (.invokevirtual 175, 3) := by decide +kernel
theorem dX11_laysSame_155 : decode cX11_laysSame 155 = .ok (.iconst 1, 1) := by decide +kernel
theorem dX11_laysSame_156 : decode cX11_laysSame 156 = .ok (.istore 4, 2) := by decide +kernel
theorem dX11_laysSame_158 : decode cX11_laysSame 158 = .ok (.iinc 5 1, 3) := by decide +kernel
theorem dX11_laysSame_161 : decode cX11_laysSame 161 = .ok (.goto (-59), 3) := by decide +kernel
theorem dX11_laysSame_164 : decode cX11_laysSame 164 = .ok (.goto (-73), 3) := by decide +kernel
theorem dX11_laysSame_167 : decode cX11_laysSame 167 = .ok (.return_, 1) := by decide +kernel
theorem dX11_isRuledOut_0 : decode cX11_isRuledOut 0 = .ok (.iconst 0, 1) := by decide +kernel
theorem dX11_isRuledOut_1 : decode cX11_isRuledOut 1 = .ok (.istore_n 2, 1) := by decide +kernel
theorem dX11_isRuledOut_2 : decode cX11_isRuledOut 2 = .ok (.iconst 0, 1) := by decide +kernel
theorem dX11_isRuledOut_3 : decode cX11_isRuledOut 3 = .ok (.istore_n 3, 1) := by decide +kernel
theorem dX11_isRuledOut_4 : decode cX11_isRuledOut 4 = .ok (.iload_n 3, 1) := by decide +kernel
theorem dX11_isRuledOut_5 : decode cX11_isRuledOut 5 = .ok (.aload_n 0, 1) := by decide +kernel
theorem dX11_isRuledOut_6 : decode cX11_isRuledOut 6 = .ok (.getfield 162, 3) := by decide +kernel
theorem dX11_isRuledOut_9 : decode cX11_isRuledOut 9 = .ok (.if_icmp .ge 61, 3) := by decide +kernel
theorem dX11_isRuledOut_12 : decode cX11_isRuledOut 12 = .ok (.iload_n 2, 1) := by decide +kernel
theorem dX11_isRuledOut_13 : decode cX11_isRuledOut 13 = .ok (.ifCond .ne 45, 3) := by decide +kernel
theorem dX11_isRuledOut_16 : decode cX11_isRuledOut 16 = .ok (.iload_n 1, 1) := by decide +kernel
theorem dX11_isRuledOut_17 : decode cX11_isRuledOut 17 = .ok (.iload_n 3, 1) := by decide +kernel
theorem dX11_isRuledOut_18 : decode cX11_isRuledOut 18 = .ok (.invokestatic 108, 3) := by decide +kernel
theorem dX11_isRuledOut_21 : decode cX11_isRuledOut 21 = .ok (.ifCond .eq 41, 3) := by decide +kernel
theorem dX11_isRuledOut_24 : decode cX11_isRuledOut 24 = .ok (.aload_n 0, 1) := by decide +kernel
theorem dX11_isRuledOut_25 : decode cX11_isRuledOut 25 = .ok (.getfield 7, 3) := by decide +kernel
theorem dX11_isRuledOut_28 : decode cX11_isRuledOut 28 = .ok (.iload_n 3, 1) := by decide +kernel
theorem dX11_isRuledOut_29 : decode cX11_isRuledOut 29 = .ok (.baload, 1) := by decide +kernel
theorem dX11_isRuledOut_30 : decode cX11_isRuledOut 30 = .ok (.ifCond .eq 32, 3) := by decide +kernel
theorem dX11_isRuledOut_33 : decode cX11_isRuledOut 33 = .ok (.aload_n 0, 1) := by decide +kernel
theorem dX11_isRuledOut_34 : decode cX11_isRuledOut 34 = .ok (.getfield 83, 3) := by decide +kernel
theorem dX11_isRuledOut_37 : decode cX11_isRuledOut 37 = .ok (.aload_n 0, 1) := by decide +kernel
theorem dX11_isRuledOut_38 : decode cX11_isRuledOut 38 = .ok (.getfield 13, 3) := by decide +kernel
theorem dX11_isRuledOut_41 : decode cX11_isRuledOut 41 = .ok (.iload_n 3, 1) := by decide +kernel
theorem dX11_isRuledOut_42 : decode cX11_isRuledOut 42 = .ok (.iaload, 1) := by decide +kernel
theorem dX11_isRuledOut_43 : decode cX11_isRuledOut 43 = .ok (.iaload, 1) := by decide +kernel
theorem dX11_isRuledOut_44 : decode cX11_isRuledOut 44 = .ok (.aload_n 0, 1) := by decide +kernel
theorem dX11_isRuledOut_45 : decode cX11_isRuledOut 45 = .ok (.getfield 83, 3) := by decide +kernel
theorem dX11_isRuledOut_48 : decode cX11_isRuledOut 48 = .ok (.aload_n 0, 1) := by decide +kernel
theorem dX11_isRuledOut_49 : decode cX11_isRuledOut 49 = .ok (.getfield 17, 3) := by decide +kernel
theorem dX11_isRuledOut_52 : decode cX11_isRuledOut 52 = .ok (.iload_n 3, 1) := by decide +kernel
theorem dX11_isRuledOut_53 : decode cX11_isRuledOut 53 = .ok (.iaload, 1) := by decide +kernel
theorem dX11_isRuledOut_54 : decode cX11_isRuledOut 54 = .ok (.iaload, 1) := by decide +kernel
theorem dX11_isRuledOut_55 : decode cX11_isRuledOut 55 = .ok (.if_icmp .ne 7, 3) := by decide +kernel
theorem dX11_isRuledOut_58 : decode cX11_isRuledOut 58 = .ok (.iconst 1, 1) := by decide +kernel
theorem dX11_isRuledOut_59 : decode cX11_isRuledOut 59 = .ok (.goto 4, 3) := by decide +kernel
theorem dX11_isRuledOut_62 : decode cX11_isRuledOut 62 = .ok (.iconst 0, 1) := by decide +kernel
theorem dX11_isRuledOut_63 : decode cX11_isRuledOut 63 = .ok (.istore_n 2, 1) := by decide +kernel
theorem dX11_isRuledOut_64 : decode cX11_isRuledOut 64 = .ok (.iinc 3 1, 3) := by decide +kernel
theorem dX11_isRuledOut_67 : decode cX11_isRuledOut 67 = .ok (.goto (-63), 3) := by decide +kernel
theorem dX11_isRuledOut_70 : decode cX11_isRuledOut 70 = .ok (.iload_n 2, 1) := by decide +kernel
theorem dX11_isRuledOut_71 : decode cX11_isRuledOut 71 = .ok (.ireturn, 1) := by decide +kernel
theorem dX11_equalOf_0 : decode cX11_equalOf 0 = .ok (.aload_n 0, 1) := by decide +kernel
theorem dX11_equalOf_1 : decode cX11_equalOf 1 = .ok (.iload_n 1, 1) := by decide +kernel
theorem dX11_equalOf_2 : decode cX11_equalOf 2 = .ok (.iconst 0, 1) := by decide +kernel
theorem dX11_equalOf_3 : decode cX11_equalOf 3 = .ok (.iconst 0, 1) := by decide +kernel
theorem dX11_equalOf_4 : decode cX11_equalOf 4 = .ok (.invokevirtual 182, 3) := by decide +kernel
theorem dX11_equalOf_7 : decode cX11_equalOf 7 = .ok (.aload_n 0, 1) := by decide +kernel
theorem dX11_equalOf_8 : decode cX11_equalOf 8 = .ok (.iload_n 1, 1) := by decide +kernel
theorem dX11_equalOf_9 : decode cX11_equalOf 9 = .ok (.invokevirtual 186, 3) := by decide +kernel
theorem dX11_equalOf_12 : decode cX11_equalOf 12 = .ok (.ifCond .ne 18, 3) := by decide +kernel
theorem dX11_equalOf_15 : decode cX11_equalOf 15 = .ok (.aload_n 0, 1) := by decide +kernel
theorem dX11_equalOf_16 : decode cX11_equalOf 16 = .ok (.getfield 83, 3) := by decide +kernel
theorem dX11_equalOf_19 : decode cX11_equalOf 19 = .ok (.iload_n 2, 1) := by decide +kernel
theorem dX11_equalOf_20 : decode cX11_equalOf 20 = .ok (.iaload, 1) := by decide +kernel
theorem dX11_equalOf_21 : decode cX11_equalOf 21 = .ok (.aload_n 0, 1) := by decide +kernel
theorem dX11_equalOf_22 : decode cX11_equalOf 22 = .ok (.getfield 83, 3) := by decide +kernel
theorem dX11_equalOf_25 : decode cX11_equalOf 25 = .ok (.iload_n 3, 1) := by decide +kernel
theorem dX11_equalOf_26 : decode cX11_equalOf 26 = .ok (.iaload, 1) := by decide +kernel
theorem dX11_equalOf_27 : decode cX11_equalOf 27 = .ok (.if_icmp .ne 5, 3) := by decide +kernel
theorem dX11_equalOf_30 : decode cX11_equalOf 30 = .ok (.iconst 1, 1) := by decide +kernel
theorem dX11_equalOf_31 : decode cX11_equalOf 31 = .ok (.ireturn, 1) := by decide +kernel
theorem dX11_equalOf_32 : decode cX11_equalOf 32 = .ok (.aload_n 0, 1) := by decide +kernel
theorem dX11_equalOf_33 : decode cX11_equalOf 33 = .ok (.iload_n 1, 1) := by decide +kernel
theorem dX11_equalOf_34 : decode cX11_equalOf 34 = .ok (.iload_n 2, 1) := by decide +kernel
theorem dX11_equalOf_35 : decode cX11_equalOf 35 = .ok (.iload_n 3, 1) := by decide +kernel
theorem dX11_equalOf_36 : decode cX11_equalOf 36 = .ok (.invokevirtual 182, 3) := by decide +kernel
theorem dX11_equalOf_39 : decode cX11_equalOf 39 = .ok (.aload_n 0, 1) := by decide +kernel
theorem dX11_equalOf_40 : decode cX11_equalOf 40 = .ok (.iload_n 1, 1) := by decide +kernel
theorem dX11_equalOf_41 : decode cX11_equalOf 41 = .ok (.invokevirtual 186, 3) := by decide +kernel
theorem dX11_equalOf_44 : decode cX11_equalOf 44 = .ok (.ifCond .eq 7, 3) := by decide +kernel
theorem dX11_equalOf_47 : decode cX11_equalOf 47 = .ok (.iconst 2, 1) := by decide +kernel
theorem dX11_equalOf_48 : decode cX11_equalOf 48 = .ok (.goto 4, 3) := by decide +kernel
theorem dX11_equalOf_51 : decode cX11_equalOf 51 = .ok (.iconst 0, 1) := by decide +kernel
theorem dX11_equalOf_52 : decode cX11_equalOf 52 = .ok (.ireturn, 1) := by decide +kernel
theorem dX11_its_0 : decode cX11_its 0 = .ok (.aload_n 0, 1) := by decide +kernel
theorem dX11_its_1 : decode cX11_its 1 = .ok (.getfield 20, 3) := by decide +kernel
theorem dX11_its_4 : decode cX11_its 4 = .ok (.iconst 1, 1) := by decide +kernel
theorem dX11_its_5 : decode cX11_its 5 = .ok (.iconst 4, 1) := by decide +kernel
theorem dX11_its_6 : decode cX11_its 6 = .ok (.iload_n 1, 1) := by decide +kernel
theorem dX11_its_7 : decode cX11_its 7 = .ok (.imul, 1) := by decide +kernel
theorem dX11_its_8 : decode cX11_its 8 = .ok (.iadd, 1) := by decide +kernel
theorem dX11_its_9 : decode cX11_its 9 = .ok (.iload_n 2, 1) := by decide +kernel
theorem dX11_its_10 : decode cX11_its 10 = .ok (.iadd, 1) := by decide +kernel
theorem dX11_its_11 : decode cX11_its 11 = .ok (.iaload, 1) := by decide +kernel
theorem dX11_its_12 : decode cX11_its 12 = .ok (.ireturn, 1) := by decide +kernel
theorem dX11_makes_0 : decode cX11_makes 0 = .ok (.aload_n 0, 1) := by decide +kernel
theorem dX11_makes_1 : decode cX11_makes 1 = .ok (.iload_n 1, 1) := by decide +kernel
theorem dX11_makes_2 : decode cX11_makes 2 = .ok (.iconst 0, 1) := by decide +kernel
theorem dX11_makes_3 : decode cX11_makes 3 = .ok (.invokevirtual 189, 3) := by decide +kernel
theorem dX11_makes_6 : decode cX11_makes 6 = .ok (.ifCond .le 17, 3) := by decide +kernel
theorem dX11_makes_9 : decode cX11_makes 9 = .ok (.aload_n 0, 1) := by decide +kernel
theorem dX11_makes_10 : decode cX11_makes 10 = .ok (.iload_n 1, 1) := by decide +kernel
theorem dX11_makes_11 : decode cX11_makes 11 = .ok (.iconst 1, 1) := by decide +kernel
theorem dX11_makes_12 : decode cX11_makes 12 = .ok (.invokevirtual 189, 3) := by decide +kernel
theorem dX11_makes_15 : decode cX11_makes 15 = .ok (.iload_n 2, 1) := by decide +kernel
theorem dX11_makes_16 : decode cX11_makes 16 = .ok (.if_icmp .ne 7, 3) := by decide +kernel
theorem dX11_makes_19 : decode cX11_makes 19 = .ok (.iconst 1, 1) := by decide +kernel
theorem dX11_makes_20 : decode cX11_makes 20 = .ok (.goto 4, 3) := by decide +kernel
theorem dX11_makes_23 : decode cX11_makes 23 = .ok (.iconst 0, 1) := by decide +kernel
theorem dX11_makes_24 : decode cX11_makes 24 = .ok (.ireturn, 1) := by decide +kernel
theorem dX11_isVisible_0 : decode cX11_isVisible 0 = .ok (.iload_n 1, 1) := by decide +kernel
theorem dX11_isVisible_1 : decode cX11_isVisible 1 = .ok (.aload_n 0, 1) := by decide +kernel
theorem dX11_isVisible_2 : decode cX11_isVisible 2 = .ok (.getfield 20, 3) := by decide +kernel
theorem dX11_isVisible_5 : decode cX11_isVisible 5 = .ok (.bipush 26, 2) := by decide +kernel
theorem dX11_isVisible_7 : decode cX11_isVisible 7 = .ok (.iaload, 1) := by decide +kernel
theorem dX11_isVisible_8 : decode cX11_isVisible 8 = .ok (.if_icmp .gt 22, 3) := by decide +kernel
theorem dX11_isVisible_11 : decode cX11_isVisible 11 = .ok (.iload_n 1, 1) := by decide +kernel
theorem dX11_isVisible_12 : decode cX11_isVisible 12 = .ok (.iconst 4, 1) := by decide +kernel
theorem dX11_isVisible_13 : decode cX11_isVisible 13 = .ok (.if_icmp .ge 21, 3) := by decide +kernel
theorem dX11_isVisible_16 : decode cX11_isVisible 16 = .ok (.iload_n 1, 1) := by decide +kernel
theorem dX11_isVisible_17 : decode cX11_isVisible 17 = .ok (.ifCond .le 17, 3) := by decide +kernel
theorem dX11_isVisible_20 : decode cX11_isVisible 20 = .ok (.iload_n 2, 1) := by decide +kernel
theorem dX11_isVisible_21 : decode cX11_isVisible 21 = .ok (.iload_n 1, 1) := by decide +kernel
theorem dX11_isVisible_22 : decode cX11_isVisible 22 = .ok (.iconst 1, 1) := by decide +kernel
theorem dX11_isVisible_23 : decode cX11_isVisible 23 = .ok (.isub, 1) := by decide +kernel
theorem dX11_isVisible_24 : decode cX11_isVisible 24 = .ok (.invokestatic 108, 3) := by decide +kernel
theorem dX11_isVisible_27 : decode cX11_isVisible 27 = .ok (.ifCond .eq 7, 3) := by decide +kernel
theorem dX11_isVisible_30 : decode cX11_isVisible 30 = .ok (.iconst 1, 1) := by decide +kernel
theorem dX11_isVisible_31 : decode cX11_isVisible 31 = .ok (.goto 4, 3) := by decide +kernel
theorem dX11_isVisible_34 : decode cX11_isVisible 34 = .ok (.iconst 0, 1) := by decide +kernel
theorem dX11_isVisible_35 : decode cX11_isVisible 35 = .ok (.ireturn, 1) := by decide +kernel
theorem dX11_latest_0 : decode cX11_latest 0 = .ok (.iload_n 1, 1) := by decide +kernel
theorem dX11_latest_1 : decode cX11_latest 1 = .ok (.iconst 1, 1) := by decide +kernel
theorem dX11_latest_2 : decode cX11_latest 2 = .ok (.isub, 1) := by decide +kernel
theorem dX11_latest_3 : decode cX11_latest 3 = .ok (.istore_n 3, 1) := by decide +kernel
theorem dX11_latest_4 : decode cX11_latest 4 = .ok (.iload_n 3, 1) := by decide +kernel
theorem dX11_latest_5 : decode cX11_latest 5 = .ok (.ifCond .lt 18, 3) := by decide +kernel
theorem dX11_latest_8 : decode cX11_latest 8 = .ok (.aload_n 0, 1) := by decide +kernel
theorem dX11_latest_9 : decode cX11_latest 9 = .ok (.iload_n 3, 1) := by decide +kernel
theorem dX11_latest_10 : decode cX11_latest 10 = .ok (.iload_n 2, 1) := by decide +kernel
theorem dX11_latest_11 : decode cX11_latest 11 = .ok (.invokevirtual 193, 3) := by decide +kernel
theorem dX11_latest_14 : decode cX11_latest 14 = .ok (.ifCond .ne 9, 3) := by decide +kernel
theorem dX11_latest_17 : decode cX11_latest 17 = .ok (.iinc 3 (-1), 3) := by decide +kernel
theorem dX11_latest_20 : decode cX11_latest 20 = .ok (.goto (-16), 3) := by decide +kernel
theorem dX11_latest_23 : decode cX11_latest 23 = .ok (.iload_n 3, 1) := by decide +kernel
theorem dX11_latest_24 : decode cX11_latest 24 = .ok (.ireturn, 1) := by decide +kernel
theorem dX11_hasIt_0 : decode cX11_hasIt 0 = .ok (.aload_n 0, 1) := by decide +kernel
theorem dX11_hasIt_1 : decode cX11_hasIt 1 = .ok (.iload_n 1, 1) := by decide +kernel
theorem dX11_hasIt_2 : decode cX11_hasIt 2 = .ok (.iload_n 3, 1) := by decide +kernel
theorem dX11_hasIt_3 : decode cX11_hasIt 3 = .ok (.invokevirtual 196, 3) := by decide +kernel
theorem dX11_hasIt_6 : decode cX11_hasIt 6 = .ok (.istore 5, 2) := by decide +kernel
theorem dX11_hasIt_8 : decode cX11_hasIt 8 = .ok (.iload 5, 2) := by decide +kernel
theorem dX11_hasIt_10 : decode cX11_hasIt 10 = .ok (.ifCond .lt 21, 3) := by decide +kernel
theorem dX11_hasIt_13 : decode cX11_hasIt 13 = .ok (.aload_n 0, 1) := by decide +kernel
theorem dX11_hasIt_14 : decode cX11_hasIt 14 = .ok (.iload_n 2, 1) := by decide +kernel
theorem dX11_hasIt_15 : decode cX11_hasIt 15 = .ok (.aload_n 0, 1) := by decide +kernel
theorem dX11_hasIt_16 : decode cX11_hasIt 16 = .ok (.getfield 86, 3) := by decide +kernel
theorem dX11_hasIt_19 : decode cX11_hasIt 19 = .ok (.iload 5, 2) := by decide +kernel
theorem dX11_hasIt_21 : decode cX11_hasIt 21 = .ok (.iaload, 1) := by decide +kernel
theorem dX11_hasIt_22 : decode cX11_hasIt 22 = .ok (.isub, 1) := by decide +kernel
theorem dX11_hasIt_23 : decode cX11_hasIt 23 = .ok (.iload 4, 2) := by decide +kernel
theorem dX11_hasIt_25 : decode cX11_hasIt 25 = .ok (.invokevirtual 199, 3) := by decide +kernel
theorem dX11_hasIt_28 : decode cX11_hasIt 28 = .ok (.ifCond .eq 7, 3) := by decide +kernel
theorem dX11_hasIt_31 : decode cX11_hasIt 31 = .ok (.iconst 1, 1) := by decide +kernel
theorem dX11_hasIt_32 : decode cX11_hasIt 32 = .ok (.goto 4, 3) := by decide +kernel
theorem dX11_hasIt_35 : decode cX11_hasIt 35 = .ok (.iconst 0, 1) := by decide +kernel
theorem dX11_hasIt_36 : decode cX11_hasIt 36 = .ok (.ireturn, 1) := by decide +kernel
theorem dX11_mayGo_0 : decode cX11_mayGo 0 = .ok (.aload_n 0, 1) := by decide +kernel
theorem dX11_mayGo_1 : decode cX11_mayGo 1 = .ok (.iload_n 1, 1) := by decide +kernel
theorem dX11_mayGo_2 : decode cX11_mayGo 2 = .ok (.iconst 0, 1) := by decide +kernel
theorem dX11_mayGo_3 : decode cX11_mayGo 3 = .ok (.invokevirtual 189, 3) := by decide +kernel
theorem dX11_mayGo_6 : decode cX11_mayGo 6 = .ok (.istore 4, 2) := by decide +kernel
theorem dX11_mayGo_8 : decode cX11_mayGo 8 = .ok (.iload 4, 2) := by decide +kernel
theorem dX11_mayGo_10 : decode cX11_mayGo 10 = .ok (.iconst 1, 1) := by decide +kernel
theorem dX11_mayGo_11 : decode cX11_mayGo 11 = .ok (.if_icmp .lt 19, 3) := by decide +kernel
theorem dX11_mayGo_14 : decode cX11_mayGo 14 = .ok (.aload_n 0, 1) := by decide +kernel
theorem dX11_mayGo_15 : decode cX11_mayGo 15 = .ok (.iload_n 1, 1) := by decide +kernel
theorem dX11_mayGo_16 : decode cX11_mayGo 16 = .ok (.iload_n 2, 1) := by decide +kernel
theorem dX11_mayGo_17 : decode cX11_mayGo 17 = .ok (.aload_n 0, 1) := by decide +kernel
theorem dX11_mayGo_18 : decode cX11_mayGo 18 = .ok (.iload_n 1, 1) := by decide +kernel
theorem dX11_mayGo_19 : decode cX11_mayGo 19 = .ok (.iconst 2, 1) := by decide +kernel
theorem dX11_mayGo_20 : decode cX11_mayGo 20 = .ok (.invokevirtual 189, 3) := by decide +kernel
theorem dX11_mayGo_23 : decode cX11_mayGo 23 = .ok (.iload_n 3, 1) := by decide +kernel
theorem dX11_mayGo_24 : decode cX11_mayGo 24 = .ok (.invokevirtual 202, 3) := by decide +kernel
theorem dX11_mayGo_27 : decode cX11_mayGo 27 = .ok (.ifCond .eq 29, 3) := by decide +kernel
theorem dX11_mayGo_30 : decode cX11_mayGo 30 = .ok (.iload 4, 2) := by decide +kernel
theorem dX11_mayGo_32 : decode cX11_mayGo 32 = .ok (.iconst 2, 1) := by decide +kernel
theorem dX11_mayGo_33 : decode cX11_mayGo 33 = .ok (.if_icmp .lt 19, 3) := by decide +kernel
theorem dX11_mayGo_36 : decode cX11_mayGo 36 = .ok (.aload_n 0, 1) := by decide +kernel
theorem dX11_mayGo_37 : decode cX11_mayGo 37 = .ok (.iload_n 1, 1) := by decide +kernel
theorem dX11_mayGo_38 : decode cX11_mayGo 38 = .ok (.iload_n 2, 1) := by decide +kernel
theorem dX11_mayGo_39 : decode cX11_mayGo 39 = .ok (.aload_n 0, 1) := by decide +kernel
theorem dX11_mayGo_40 : decode cX11_mayGo 40 = .ok (.iload_n 1, 1) := by decide +kernel
theorem dX11_mayGo_41 : decode cX11_mayGo 41 = .ok (.iconst 3, 1) := by decide +kernel
theorem dX11_mayGo_42 : decode cX11_mayGo 42 = .ok (.invokevirtual 189, 3) := by decide +kernel
theorem dX11_mayGo_45 : decode cX11_mayGo 45 = .ok (.iload_n 3, 1) := by decide +kernel
theorem dX11_mayGo_46 : decode cX11_mayGo 46 = .ok (.invokevirtual 202, 3) := by decide +kernel
theorem dX11_mayGo_49 : decode cX11_mayGo 49 = .ok (.ifCond .eq 7, 3) := by decide +kernel
theorem dX11_mayGo_52 : decode cX11_mayGo 52 = .ok (.iconst 1, 1) := by decide +kernel
theorem dX11_mayGo_53 : decode cX11_mayGo 53 = .ok (.goto 4, 3) := by decide +kernel
theorem dX11_mayGo_56 : decode cX11_mayGo 56 = .ok (.iconst 0, 1) := by decide +kernel
theorem dX11_mayGo_57 : decode cX11_mayGo 57 = .ok (.ireturn, 1) := by decide +kernel
theorem dX11_laysSteps_0 : decode cX11_laysSteps 0 = .ok (.iconst 0, 1) := by decide +kernel
theorem dX11_laysSteps_1 : decode cX11_laysSteps 1 = .ok (.istore_n 3, 1) := by decide +kernel
theorem dX11_laysSteps_2 : decode cX11_laysSteps 2 = .ok (.iload_n 3, 1) := by decide +kernel
theorem dX11_laysSteps_3 : decode cX11_laysSteps 3 = .ok (.aload_n 0, 1) := by decide +kernel
theorem dX11_laysSteps_4 : decode cX11_laysSteps 4 = .ok (.getfield 20, 3) := by decide +kernel
theorem dX11_laysSteps_7 : decode cX11_laysSteps 7 = .ok (.iconst 0, 1) := by decide +kernel
theorem dX11_laysSteps_8 : decode cX11_laysSteps 8 = .ok (.iaload, 1) := by decide +kernel
theorem dX11_laysSteps_9 : decode cX11_laysSteps 9 = .ok (.if_icmp .ge 65, 3) := by decide +kernel
theorem dX11_laysSteps_12 : decode cX11_laysSteps 12 = .ok (.aload_n 0, 1) := by decide +kernel
theorem dX11_laysSteps_13 : decode cX11_laysSteps 13 = .ok (.getfield 86, 3) := by decide +kernel
theorem dX11_laysSteps_16 : decode cX11_laysSteps 16 = .ok (.iload_n 3, 1) := by decide +kernel
theorem dX11_laysSteps_17 : decode cX11_laysSteps 17 = .ok (.iload_n 3, 1) := by decide +kernel
theorem dX11_laysSteps_18 : decode cX11_laysSteps 18 = .ok (.ifCond .ne 7, 3) := by decide +kernel
theorem dX11_laysSteps_21 : decode cX11_laysSteps 21 = .ok (.iconst 0, 1) := by decide +kernel
theorem dX11_laysSteps_22 : decode cX11_laysSteps 22 = .ok (.goto 13, 3) := by decide +kernel
theorem dX11_laysSteps_25 : decode cX11_laysSteps 25 = .ok (.aload_n 0, 1) := by decide +kernel
theorem dX11_laysSteps_26 : decode cX11_laysSteps 26 = .ok (.getfield 86, 3) := by decide +kernel
theorem dX11_laysSteps_29 : decode cX11_laysSteps 29 = .ok (.iload_n 3, 1) := by decide +kernel
theorem dX11_laysSteps_30 : decode cX11_laysSteps 30 = .ok (.iconst 1, 1) := by decide +kernel
theorem dX11_laysSteps_31 : decode cX11_laysSteps 31 = .ok (.isub, 1) := by decide +kernel
theorem dX11_laysSteps_32 : decode cX11_laysSteps 32 = .ok (.iaload, 1) := by decide +kernel
theorem dX11_laysSteps_33 : decode cX11_laysSteps 33 = .ok (.iconst 1, 1) := by decide +kernel
theorem dX11_laysSteps_34 : decode cX11_laysSteps 34 = .ok (.iadd, 1) := by decide +kernel
theorem dX11_laysSteps_35 : decode cX11_laysSteps 35 = .ok (.iastore, 1) := by decide +kernel
theorem dX11_laysSteps_36 : decode cX11_laysSteps 36 = .ok (.iload_n 2, 1) := by decide +kernel
theorem dX11_laysSteps_37 : decode cX11_laysSteps 37 = .ok (.ifCond .eq 31, 3) := by decide +kernel
theorem dX11_laysSteps_40 : decode cX11_laysSteps 40 = .ok (.aload_n 0, 1) := by decide +kernel
theorem dX11_laysSteps_41 : decode cX11_laysSteps 41 = .ok (.iload_n 3, 1) := by decide +kernel
theorem dX11_laysSteps_42 : decode cX11_laysSteps 42 = .ok (.aload_n 0, 1) := by decide +kernel
theorem dX11_laysSteps_43 : decode cX11_laysSteps 43 = .ok (.getfield 86, 3) := by decide +kernel
theorem dX11_laysSteps_46 : decode cX11_laysSteps 46 = .ok (.iload_n 3, 1) := by decide +kernel
theorem dX11_laysSteps_47 : decode cX11_laysSteps 47 = .ok (.iaload, 1) := by decide +kernel
theorem dX11_laysSteps_48 : decode cX11_laysSteps 48 = .ok (.iload_n 1, 1) := by decide +kernel
theorem dX11_laysSteps_49 : decode cX11_laysSteps 49 = .ok (.invokevirtual 206, 3) := by decide +kernel
theorem dX11_laysSteps_52 : decode cX11_laysSteps 52 = .ok (.ifCond .ne 16, 3) := by decide +kernel
theorem dX11_laysSteps_55 : decode cX11_laysSteps 55 = .ok (.aload_n 0, 1) := by decide +kernel
theorem dX11_laysSteps_56 : decode cX11_laysSteps 56 = .ok (.getfield 86, 3) := by decide +kernel
theorem dX11_laysSteps_59 : decode cX11_laysSteps 59 = .ok (.iload_n 3, 1) := by decide +kernel
theorem dX11_laysSteps_60 : decode cX11_laysSteps 60 = .ok (.dup2, 1) := by decide +kernel
theorem dX11_laysSteps_61 : decode cX11_laysSteps 61 = .ok (.iaload, 1) := by decide +kernel
theorem dX11_laysSteps_62 : decode cX11_laysSteps 62 = .ok (.iconst 1, 1) := by decide +kernel
theorem dX11_laysSteps_63 : decode cX11_laysSteps 63 = .ok (.iadd, 1) := by decide +kernel
theorem dX11_laysSteps_64 : decode cX11_laysSteps 64 = .ok (.iastore, 1) := by decide +kernel
theorem dX11_laysSteps_65 : decode cX11_laysSteps 65 = .ok (.goto (-29), 3) := by decide +kernel
theorem dX11_laysSteps_68 : decode cX11_laysSteps 68 = .ok (.iinc 3 1, 3) := by decide +kernel
theorem dX11_laysSteps_71 : decode cX11_laysSteps 71 = .ok (.goto (-69), 3) := by decide +kernel
theorem dX11_laysSteps_74 : decode cX11_laysSteps 74 = .ok (.return_, 1) := by decide +kernel
theorem dX11_readBy_0 : decode cX11_readBy 0 = .ok (.iload_n 1, 1) := by decide +kernel
theorem dX11_readBy_1 : decode cX11_readBy 1 = .ok (.iconst 1, 1) := by decide +kernel
theorem dX11_readBy_2 : decode cX11_readBy 2 = .ok (.isub, 1) := by decide +kernel
theorem dX11_readBy_3 : decode cX11_readBy 3 = .ok (.istore 5, 2) := by decide +kernel
theorem dX11_readBy_5 : decode cX11_readBy 5 = .ok (.iload 5, 2) := by decide +kernel
theorem dX11_readBy_7 : decode cX11_readBy 7 = .ok (.ifCond .lt 54, 3) := by decide +kernel
theorem dX11_readBy_10 : decode cX11_readBy 10 = .ok (.aload_n 0, 1) := by decide +kernel
theorem dX11_readBy_11 : decode cX11_readBy 11 = .ok (.iload 5, 2) := by decide +kernel
theorem dX11_readBy_13 : decode cX11_readBy 13 = .ok (.iload_n 2, 1) := by decide +kernel
theorem dX11_readBy_14 : decode cX11_readBy 14 = .ok (.invokevirtual 193, 3) := by decide +kernel
theorem dX11_readBy_17 : decode cX11_readBy 17 = .ok (.ifCond .eq 38, 3) := by decide +kernel
theorem dX11_readBy_20 : decode cX11_readBy 20 = .ok (.iload 4, 2) := by decide +kernel
theorem dX11_readBy_22 : decode cX11_readBy 22 = .ok (.ifCond .eq 25, 3) := by decide +kernel
theorem dX11_readBy_25 : decode cX11_readBy 25 = .ok (.aload_n 0, 1) := by decide +kernel
theorem dX11_readBy_26 : decode cX11_readBy 26 = .ok (.aload_n 0, 1) := by decide +kernel
theorem dX11_readBy_27 : decode cX11_readBy 27 = .ok (.getfield 86, 3) := by decide +kernel
theorem dX11_readBy_30 : decode cX11_readBy 30 = .ok (.iload_n 1, 1) := by decide +kernel
theorem dX11_readBy_31 : decode cX11_readBy 31 = .ok (.iaload, 1) := by decide +kernel
theorem dX11_readBy_32 : decode cX11_readBy 32 = .ok (.aload_n 0, 1) := by decide +kernel
theorem dX11_readBy_33 : decode cX11_readBy 33 = .ok (.getfield 86, 3) := by decide +kernel
theorem dX11_readBy_36 : decode cX11_readBy 36 = .ok (.iload 5, 2) := by decide +kernel
theorem dX11_readBy_38 : decode cX11_readBy 38 = .ok (.iaload, 1) := by decide +kernel
theorem dX11_readBy_39 : decode cX11_readBy 39 = .ok (.isub, 1) := by decide +kernel
theorem dX11_readBy_40 : decode cX11_readBy 40 = .ok (.iload_n 3, 1) := by decide +kernel
theorem dX11_readBy_41 : decode cX11_readBy 41 = .ok (.invokevirtual 199, 3) := by decide +kernel
theorem dX11_readBy_44 : decode cX11_readBy 44 = .ok (.ifCond .eq 11, 3) := by decide +kernel
theorem dX11_readBy_47 : decode cX11_readBy 47 = .ok (.aload_n 0, 1) := by decide +kernel
theorem dX11_readBy_48 : decode cX11_readBy 48 = .ok (.getfield 89, 3) := by decide +kernel
theorem dX11_readBy_51 : decode cX11_readBy 51 = .ok (.iload 5, 2) := by decide +kernel
theorem dX11_readBy_53 : decode cX11_readBy 53 = .ok (.iaload, 1) := by decide +kernel
theorem dX11_readBy_54 : decode cX11_readBy 54 = .ok (.ireturn, 1) := by decide +kernel
theorem dX11_readBy_55 : decode cX11_readBy 55 = .ok (.iinc 5 (-1), 3) := by decide +kernel
theorem dX11_readBy_58 : decode cX11_readBy 58 = .ok (.goto (-53), 3) := by decide +kernel
theorem dX11_readBy_61 : decode cX11_readBy 61 = .ok (.iload_n 2, 1) := by decide +kernel
theorem dX11_readBy_62 : decode cX11_readBy 62 = .ok (.ireturn, 1) := by decide +kernel
theorem dX11_goes_0 : decode cX11_goes 0 = .ok (.iconst 0, 1) := by decide +kernel
theorem dX11_goes_1 : decode cX11_goes 1 = .ok (.istore_n 3, 1) := by decide +kernel
theorem dX11_goes_2 : decode cX11_goes 2 = .ok (.iload_n 3, 1) := by decide +kernel
theorem dX11_goes_3 : decode cX11_goes 3 = .ok (.aload_n 0, 1) := by decide +kernel
theorem dX11_goes_4 : decode cX11_goes 4 = .ok (.getfield 20, 3) := by decide +kernel
theorem dX11_goes_7 : decode cX11_goes 7 = .ok (.iconst 0, 1) := by decide +kernel
theorem dX11_goes_8 : decode cX11_goes 8 = .ok (.iaload, 1) := by decide +kernel
theorem dX11_goes_9 : decode cX11_goes 9 = .ok (.if_icmp .ge 90, 3) := by decide +kernel
theorem dX11_goes_12 : decode cX11_goes 12 = .ok (.aload_n 0, 1) := by decide +kernel
theorem dX11_goes_13 : decode cX11_goes 13 = .ok (.iload_n 3, 1) := by decide +kernel
theorem dX11_goes_14 : decode cX11_goes 14 = .ok (.aload_n 0, 1) := by decide +kernel
theorem dX11_goes_15 : decode cX11_goes 15 = .ok (.iload_n 3, 1) := by decide +kernel
theorem dX11_goes_16 : decode cX11_goes 16 = .ok (.iconst 2, 1) := by decide +kernel
theorem dX11_goes_17 : decode cX11_goes 17 = .ok (.invokevirtual 189, 3) := by decide +kernel
theorem dX11_goes_20 : decode cX11_goes 20 = .ok (.iload_n 1, 1) := by decide +kernel
theorem dX11_goes_21 : decode cX11_goes 21 = .ok (.iload_n 2, 1) := by decide +kernel
theorem dX11_goes_22 : decode cX11_goes 22 = .ok (.invokevirtual 209, 3) := by decide +kernel
theorem dX11_goes_25 : decode cX11_goes 25 = .ok (.istore 4, 2) := by decide +kernel
theorem dX11_goes_27 : decode cX11_goes 27 = .ok (.aload_n 0, 1) := by decide +kernel
theorem dX11_goes_28 : decode cX11_goes 28 = .ok (.iload_n 3, 1) := by decide +kernel
theorem dX11_goes_29 : decode cX11_goes 29 = .ok (.aload_n 0, 1) := by decide +kernel
theorem dX11_goes_30 : decode cX11_goes 30 = .ok (.iload_n 3, 1) := by decide +kernel
theorem dX11_goes_31 : decode cX11_goes 31 = .ok (.iconst 3, 1) := by decide +kernel
theorem dX11_goes_32 : decode cX11_goes 32 = .ok (.invokevirtual 189, 3) := by decide +kernel
theorem dX11_goes_35 : decode cX11_goes 35 = .ok (.iload_n 1, 1) := by decide +kernel
theorem dX11_goes_36 : decode cX11_goes 36 = .ok (.iload_n 2, 1) := by decide +kernel
theorem dX11_goes_37 : decode cX11_goes 37 = .ok (.invokevirtual 209, 3) := by decide +kernel
theorem dX11_goes_40 : decode cX11_goes 40 = .ok (.istore 5, 2) := by decide +kernel
theorem dX11_goes_42 : decode cX11_goes 42 = .ok (.aload_n 0, 1) := by decide +kernel
theorem dX11_goes_43 : decode cX11_goes 43 = .ok (.getfield 89, 3) := by decide +kernel
theorem dX11_goes_46 : decode cX11_goes 46 = .ok (.iload_n 3, 1) := by decide +kernel
theorem dX11_goes_47 : decode cX11_goes 47 = .ok (.aload_n 0, 1) := by decide +kernel
theorem dX11_goes_48 : decode cX11_goes 48 = .ok (.iload_n 3, 1) := by decide +kernel
theorem dX11_goes_49 : decode cX11_goes 49 = .ok (.iconst 0, 1) := by decide +kernel
theorem dX11_goes_50 : decode cX11_goes 50 = .ok (.invokevirtual 189, 3) := by decide +kernel
theorem dX11_goes_53 : decode cX11_goes 53 = .ok (.ifCond .ne 8, 3) := by decide +kernel
theorem dX11_goes_56 : decode cX11_goes 56 = .ok (.bipush (-9), 2) := by decide +kernel
theorem dX11_goes_58 : decode cX11_goes 58 = .ok (.goto 34, 3) := by decide +kernel
theorem dX11_goes_61 : decode cX11_goes 61 = .ok (.aload_n 0, 1) := by decide +kernel
theorem dX11_goes_62 : decode cX11_goes 62 = .ok (.iload_n 3, 1) := by decide +kernel
theorem dX11_goes_63 : decode cX11_goes 63 = .ok (.iconst 0, 1) := by decide +kernel
theorem dX11_goes_64 : decode cX11_goes 64 = .ok (.invokevirtual 189, 3) := by decide +kernel
theorem dX11_goes_67 : decode cX11_goes 67 = .ok (.iconst 1, 1) := by decide +kernel
theorem dX11_goes_68 : decode cX11_goes 68 = .ok (.if_icmp .ne 15, 3) := by decide +kernel
theorem dX11_goes_71 : decode cX11_goes 71 = .ok (.aload_n 0, 1) := by decide +kernel
theorem dX11_goes_72 : decode cX11_goes 72 = .ok (.iconst 4, 1) := by decide +kernel
theorem dX11_goes_73 : decode cX11_goes 73 = .ok (.iload 4, 2) := by decide +kernel
theorem dX11_goes_75 : decode cX11_goes 75 = .ok (.bipush (-9), 2) := by decide +kernel
theorem dX11_goes_77 : decode cX11_goes 77 = .ok (.invokevirtual 115, 3) := by decide +kernel
theorem dX11_goes_80 : decode cX11_goes 80 = .ok (.goto 12, 3) := by decide +kernel
theorem dX11_goes_83 : decode cX11_goes 83 = .ok (.aload_n 0, 1) := by decide +kernel
theorem dX11_goes_84 : decode cX11_goes 84 = .ok (.iconst 5, 1) := by decide +kernel
theorem dX11_goes_85 : decode cX11_goes 85 = .ok (.iload 4, 2) := by decide +kernel
theorem dX11_goes_87 : decode cX11_goes 87 = .ok (.iload 5, 2) := by decide +kernel
theorem dX11_goes_89 : decode cX11_goes 89 = .ok (.invokevirtual 115, 3) := by decide +kernel
theorem dX11_goes_92 : decode cX11_goes 92 = .ok (.iastore, 1) := by decide +kernel
theorem dX11_goes_93 : decode cX11_goes 93 = .ok (.iinc 3 1, 3) := by decide +kernel
theorem dX11_goes_96 : decode cX11_goes 96 = .ok (.goto (-94), 3) := by decide +kernel
theorem dX11_goes_99 : decode cX11_goes 99 = .ok (.iconst 0, 1) := by decide +kernel
theorem dX11_goes_100 : decode cX11_goes 100 = .ok (.istore_n 3, 1) := by decide +kernel
theorem dX11_goes_101 : decode cX11_goes 101 = .ok (.iload_n 3, 1) := by decide +kernel
theorem dX11_goes_102 : decode cX11_goes 102 = .ok (.iconst 4, 1) := by decide +kernel
theorem dX11_goes_103 : decode cX11_goes 103 = .ok (.if_icmp .ge 54, 3) := by decide +kernel
theorem dX11_goes_106 : decode cX11_goes 106 = .ok (.aload_n 0, 1) := by decide +kernel
theorem dX11_goes_107 : decode cX11_goes 107 = .ok (.aload_n 0, 1) := by decide +kernel
theorem dX11_goes_108 : decode cX11_goes 108 = .ok (.getfield 20, 3) := by decide +kernel
theorem dX11_goes_111 : decode cX11_goes 111 = .ok (.iconst 0, 1) := by decide +kernel
theorem dX11_goes_112 : decode cX11_goes 112 = .ok (.iaload, 1) := by decide +kernel
theorem dX11_goes_113 : decode cX11_goes 113 = .ok (.iload_n 3, 1) := by decide +kernel
theorem dX11_goes_114 : decode cX11_goes 114 = .ok (.invokevirtual 196, 3) := by decide +kernel
theorem dX11_goes_117 : decode cX11_goes 117 = .ok (.istore 4, 2) := by decide +kernel
theorem dX11_goes_119 : decode cX11_goes 119 = .ok (.aload_n 0, 1) := by decide +kernel
theorem dX11_goes_120 : decode cX11_goes 120 = .ok (.getfield 92, 3) := by decide +kernel
theorem dX11_goes_123 : decode cX11_goes 123 = .ok (.iload_n 3, 1) := by decide +kernel
theorem dX11_goes_124 : decode cX11_goes 124 = .ok (.iload_n 2, 1) := by decide +kernel
theorem dX11_goes_125 : decode cX11_goes 125 = .ok (.ifCond .eq 7, 3) := by decide +kernel
theorem dX11_goes_128 : decode cX11_goes 128 = .ok (.iconst 4, 1) := by decide +kernel
theorem dX11_goes_129 : decode cX11_goes 129 = .ok (.goto 4, 3) := by decide +kernel
theorem dX11_goes_132 : decode cX11_goes 132 = .ok (.iconst 0, 1) := by decide +kernel
theorem dX11_goes_133 : decode cX11_goes 133 = .ok (.iadd, 1) := by decide +kernel
theorem dX11_goes_134 : decode cX11_goes 134 = .ok (.iload 4, 2) := by decide +kernel
theorem dX11_goes_136 : decode cX11_goes 136 = .ok (.ifCond .ge 7, 3) := by decide +kernel
theorem dX11_goes_139 : decode cX11_goes 139 = .ok (.iload_n 3, 1) := by decide +kernel
theorem dX11_goes_140 : decode cX11_goes 140 = .ok (.goto 10, 3) := by decide +kernel
theorem dX11_goes_143 : decode cX11_goes 143 = .ok (.aload_n 0, 1) := by decide +kernel
theorem dX11_goes_144 : decode cX11_goes 144 = .ok (.getfield 89, 3) := by decide +kernel
theorem dX11_goes_147 : decode cX11_goes 147 = .ok (.iload 4, 2) := by decide +kernel
theorem dX11_goes_149 : decode cX11_goes 149 = .ok (.iaload, 1) := by decide +kernel
theorem dX11_goes_150 : decode cX11_goes 150 = .ok (.iastore, 1) := by decide +kernel
theorem dX11_goes_151 : decode cX11_goes 151 = .ok (.iinc 3 1, 3) := by decide +kernel
theorem dX11_goes_154 : decode cX11_goes 154 = .ok (.goto (-53), 3) := by decide +kernel
theorem dX11_goes_157 : decode cX11_goes 157 = .ok (.return_, 1) := by decide +kernel
theorem dX11_runs_0 : decode cX11_runs 0 = .ok (.aload_n 0, 1) := by decide +kernel
theorem dX11_runs_1 : decode cX11_runs 1 = .ok (.aload_n 0, 1) := by decide +kernel
theorem dX11_runs_2 : decode cX11_runs 2 = .ok (.getfield 119, 3) := by decide +kernel
theorem dX11_runs_5 : decode cX11_runs 5 = .ok (.putfield 112, 3) := by decide +kernel
theorem dX11_runs_8 : decode cX11_runs 8 = .ok (.aload_n 0, 1) := by decide +kernel
theorem dX11_runs_9 : decode cX11_runs 9 = .ok (.iload_n 1, 1) := by decide +kernel
theorem dX11_runs_10 : decode cX11_runs 10 = .ok (.iload_n 2, 1) := by decide +kernel
theorem dX11_runs_11 : decode cX11_runs 11 = .ok (.invokevirtual 213, 3) := by decide +kernel
theorem dX11_runs_14 : decode cX11_runs 14 = .ok (.aload_n 0, 1) := by decide +kernel
theorem dX11_runs_15 : decode cX11_runs 15 = .ok (.iload_n 1, 1) := by decide +kernel
theorem dX11_runs_16 : decode cX11_runs 16 = .ok (.iconst 0, 1) := by decide +kernel
theorem dX11_runs_17 : decode cX11_runs 17 = .ok (.invokevirtual 217, 3) := by decide +kernel
theorem dX11_runs_20 : decode cX11_runs 20 = .ok (.aload_n 0, 1) := by decide +kernel
theorem dX11_runs_21 : decode cX11_runs 21 = .ok (.iload_n 1, 1) := by decide +kernel
theorem dX11_runs_22 : decode cX11_runs 22 = .ok (.iconst 1, 1) := by decide +kernel
theorem dX11_runs_23 : decode cX11_runs 23 = .ok (.invokevirtual 217, 3) := by decide +kernel
theorem dX11_runs_26 : decode cX11_runs 26 = .ok (.return_, 1) := by decide +kernel
theorem dX11_runsNow_0 : decode cX11_runsNow 0 = .ok (.aload_n 0, 1) := by decide +kernel
theorem dX11_runsNow_1 : decode cX11_runsNow 1 = .ok (.aload_n 0, 1) := by decide +kernel
theorem dX11_runsNow_2 : decode cX11_runsNow 2 = .ok (.getfield 20, 3) := by decide +kernel
theorem dX11_runsNow_5 : decode cX11_runsNow 5 = .ok (.bipush 27, 2) := by decide +kernel
theorem dX11_runsNow_7 : decode cX11_runsNow 7 = .ok (.iaload, 1) := by decide +kernel
theorem dX11_runsNow_8 : decode cX11_runsNow 8 = .ok (.aload_n 0, 1) := by decide +kernel
theorem dX11_runsNow_9 : decode cX11_runsNow 9 = .ok (.getfield 20, 3) := by decide +kernel
theorem dX11_runsNow_12 : decode cX11_runsNow 12 = .ok (.bipush 28, 2) := by decide +kernel
theorem dX11_runsNow_14 : decode cX11_runsNow 14 = .ok (.iaload, 1) := by decide +kernel
theorem dX11_runsNow_15 : decode cX11_runsNow 15 = .ok (.iconst 1, 1) := by decide +kernel
theorem dX11_runsNow_16 : decode cX11_runsNow 16 = .ok (.if_icmp .ne 7, 3) := by decide +kernel
theorem dX11_runsNow_19 : decode cX11_runsNow 19 = .ok (.iconst 1, 1) := by decide +kernel
theorem dX11_runsNow_20 : decode cX11_runsNow 20 = .ok (.goto 4, 3) := by decide +kernel
theorem dX11_runsNow_23 : decode cX11_runsNow 23 = .ok (.iconst 0, 1) := by decide +kernel
theorem dX11_runsNow_24 : decode cX11_runsNow 24 = .ok (.invokevirtual 220, 3) := by decide +kernel
theorem dX11_runsNow_27 : decode cX11_runsNow 27 = .ok (.return_, 1) := by decide +kernel
theorem dX11_wrongBy_0 : decode cX11_wrongBy 0 = .ok (.aload_n 0, 1) := by decide +kernel
theorem dX11_wrongBy_1 : decode cX11_wrongBy 1 = .ok (.iload_n 1, 1) := by decide +kernel
theorem dX11_wrongBy_2 : decode cX11_wrongBy 2 = .ok (.iconst 0, 1) := by decide +kernel
theorem dX11_wrongBy_3 : decode cX11_wrongBy 3 = .ok (.iconst 0, 1) := by decide +kernel
theorem dX11_wrongBy_4 : decode cX11_wrongBy 4 = .ok (.invokevirtual 182, 3) := by decide +kernel
theorem dX11_wrongBy_7 : decode cX11_wrongBy 7 = .ok (.aload_n 0, 1) := by decide +kernel
theorem dX11_wrongBy_8 : decode cX11_wrongBy 8 = .ok (.iload_n 1, 1) := by decide +kernel
theorem dX11_wrongBy_9 : decode cX11_wrongBy 9 = .ok (.invokevirtual 186, 3) := by decide +kernel
theorem dX11_wrongBy_12 : decode cX11_wrongBy 12 = .ok (.ifCond .eq 5, 3) := by decide +kernel
theorem dX11_wrongBy_15 : decode cX11_wrongBy 15 = .ok (.iconst 0, 1) := by decide +kernel
theorem dX11_wrongBy_16 : decode cX11_wrongBy 16 = .ok (.ireturn, 1) := by decide +kernel
theorem dX11_wrongBy_17 : decode cX11_wrongBy 17 = .ok (.iconst 0, 1) := by decide +kernel
theorem dX11_wrongBy_18 : decode cX11_wrongBy 18 = .ok (.istore_n 2, 1) := by decide +kernel
theorem dX11_wrongBy_19 : decode cX11_wrongBy 19 = .ok (.iconst 0, 1) := by decide +kernel
theorem dX11_wrongBy_20 : decode cX11_wrongBy 20 = .ok (.istore_n 3, 1) := by decide +kernel
theorem dX11_wrongBy_21 : decode cX11_wrongBy 21 = .ok (.iload_n 3, 1) := by decide +kernel
theorem dX11_wrongBy_22 : decode cX11_wrongBy 22 = .ok (.iconst 4, 1) := by decide +kernel
theorem dX11_wrongBy_23 : decode cX11_wrongBy 23 = .ok (.if_icmp .ge 46, 3) := by decide +kernel
theorem dX11_wrongBy_26 : decode cX11_wrongBy 26 = .ok (.iload_n 2, 1) := by decide +kernel
theorem dX11_wrongBy_27 : decode cX11_wrongBy 27 = .ok (.aload_n 0, 1) := by decide +kernel
theorem dX11_wrongBy_28 : decode cX11_wrongBy 28 = .ok (.getfield 83, 3) := by decide +kernel
theorem dX11_wrongBy_31 : decode cX11_wrongBy 31 = .ok (.aload_n 0, 1) := by decide +kernel
theorem dX11_wrongBy_32 : decode cX11_wrongBy 32 = .ok (.getfield 92, 3) := by decide +kernel
theorem dX11_wrongBy_35 : decode cX11_wrongBy 35 = .ok (.iload_n 3, 1) := by decide +kernel
theorem dX11_wrongBy_36 : decode cX11_wrongBy 36 = .ok (.iaload, 1) := by decide +kernel
theorem dX11_wrongBy_37 : decode cX11_wrongBy 37 = .ok (.iaload, 1) := by decide +kernel
theorem dX11_wrongBy_38 : decode cX11_wrongBy 38 = .ok (.aload_n 0, 1) := by decide +kernel
theorem dX11_wrongBy_39 : decode cX11_wrongBy 39 = .ok (.getfield 83, 3) := by decide +kernel
theorem dX11_wrongBy_42 : decode cX11_wrongBy 42 = .ok (.aload_n 0, 1) := by decide +kernel
theorem dX11_wrongBy_43 : decode cX11_wrongBy 43 = .ok (.getfield 92, 3) := by decide +kernel
theorem dX11_wrongBy_46 : decode cX11_wrongBy 46 = .ok (.iload_n 3, 1) := by decide +kernel
theorem dX11_wrongBy_47 : decode cX11_wrongBy 47 = .ok (.iconst 4, 1) := by decide +kernel
theorem dX11_wrongBy_48 : decode cX11_wrongBy 48 = .ok (.iadd, 1) := by decide +kernel
theorem dX11_wrongBy_49 : decode cX11_wrongBy 49 = .ok (.iaload, 1) := by decide +kernel
theorem dX11_wrongBy_50 : decode cX11_wrongBy 50 = .ok (.iaload, 1) := by decide +kernel
theorem dX11_wrongBy_51 : decode cX11_wrongBy 51 = .ok (.if_icmp .ne 7, 3) := by decide +kernel
theorem dX11_wrongBy_54 : decode cX11_wrongBy 54 = .ok (.iconst 0, 1) := by decide +kernel
theorem dX11_wrongBy_55 : decode cX11_wrongBy 55 = .ok (.goto 6, 3) := by decide +kernel
theorem dX11_wrongBy_58 : decode cX11_wrongBy 58 = .ok (.iconst 1, 1) := by decide +kernel
theorem dX11_wrongBy_59 : decode cX11_wrongBy 59 = .ok (.iload_n 3, 1) := by decide +kernel
theorem dX11_wrongBy_60 : decode cX11_wrongBy 60 = .ok (.ishl, 1) := by decide +kernel
theorem dX11_wrongBy_61 : decode cX11_wrongBy 61 = .ok (.ior, 1) := by decide +kernel
theorem dX11_wrongBy_62 : decode cX11_wrongBy 62 = .ok (.istore_n 2, 1) := by decide +kernel
theorem dX11_wrongBy_63 : decode cX11_wrongBy 63 = .ok (.iinc 3 1, 3) := by decide +kernel
theorem dX11_wrongBy_66 : decode cX11_wrongBy 66 = .ok (.goto (-45), 3) := by decide +kernel
theorem dX11_wrongBy_69 : decode cX11_wrongBy 69 = .ok (.iload_n 2, 1) := by decide +kernel
theorem dX11_wrongBy_70 : decode cX11_wrongBy 70 = .ok (.ireturn, 1) := by decide +kernel
theorem dX11_instruction_0 : decode cX11_instruction 0 = .ok (.aload_n 0, 1) := by decide +kernel
theorem dX11_instruction_1 : decode cX11_instruction 1 = .ok (.iconst 0, 1) := by decide +kernel
theorem dX11_instruction_2 : decode cX11_instruction 2 = .ok (.putfield 104, 3) := by decide +kernel
theorem dX11_instruction_5 : decode cX11_instruction 5 = .ok (.iload_n 1, 1) := by decide +kernel
theorem dX11_instruction_6 : decode cX11_instruction 6 = .ok (.iconst 0, 1) := by decide +kernel
theorem dX11_instruction_7 : decode cX11_instruction 7 = .ok (.aload_n 0, 1) := by decide +kernel
theorem dX11_instruction_8 : decode cX11_instruction 8 = .ok (.getfield 20, 3) := by decide +kernel
theorem dX11_instruction_11 : decode cX11_instruction 11 = .ok (.iconst 0, 1) := by decide +kernel
theorem dX11_instruction_12 : decode cX11_instruction 12 = .ok (.iaload, 1) := by decide +kernel
theorem dX11_instruction_13 : decode cX11_instruction 13 = .ok (.iconst 1, 1) := by decide +kernel
theorem dX11_instruction_14 : decode cX11_instruction 14 = .ok (.isub, 1) := by decide +kernel
theorem dX11_instruction_15 : decode cX11_instruction 15 = .ok (.invokestatic 122, 3) := by decide +kernel
theorem dX11_instruction_18 : decode cX11_instruction 18 = .ok (.ifCond .eq 21, 3) := by decide +kernel
theorem dX11_instruction_21 : decode cX11_instruction 21 = .ok (.iload_n 2, 1) := by decide +kernel
theorem dX11_instruction_22 : decode cX11_instruction 22 = .ok (.iconst 0, 1) := by decide +kernel
theorem dX11_instruction_23 : decode cX11_instruction 23 = .ok (.iconst 3, 1) := by decide +kernel
theorem dX11_instruction_24 : decode cX11_instruction 24 = .ok (.invokestatic 122, 3) := by decide +kernel
theorem dX11_instruction_27 : decode cX11_instruction 27 = .ok (.ifCond .eq 12, 3) := by decide +kernel
theorem dX11_instruction_30 : decode cX11_instruction 30 = .ok (.aload_n 0, 1) := by decide +kernel
theorem dX11_instruction_31 : decode cX11_instruction 31 = .ok (.iload_n 1, 1) := by decide +kernel
theorem dX11_instruction_32 : decode cX11_instruction 32 = .ok (.iload_n 2, 1) := by decide +kernel
theorem dX11_instruction_33 : decode cX11_instruction 33 = .ok (.invokevirtual 189, 3) := by decide +kernel
theorem dX11_instruction_36 : decode cX11_instruction 36 = .ok (.goto 4, 3) := by decide +kernel
theorem dX11_instruction_39 : decode cX11_instruction 39 = .ok (.iconst (-1), 1) := by decide +kernel
theorem dX11_instruction_40 : decode cX11_instruction 40 = .ok (.ireturn, 1) := by decide +kernel
theorem dX11_fact_0 : decode cX11_fact 0 = .ok (.aload_n 0, 1) := by decide +kernel
theorem dX11_fact_1 : decode cX11_fact 1 = .ok (.iconst 0, 1) := by decide +kernel
theorem dX11_fact_2 : decode cX11_fact 2 = .ok (.putfield 104, 3) := by decide +kernel
theorem dX11_fact_5 : decode cX11_fact 5 = .ok (.iload_n 1, 1) := by decide +kernel
theorem dX11_fact_6 : decode cX11_fact 6 = .ok (.iconst 0, 1) := by decide +kernel
theorem dX11_fact_7 : decode cX11_fact 7 = .ok (.aload_n 0, 1) := by decide +kernel
theorem dX11_fact_8 : decode cX11_fact 8 = .ok (.getfield 162, 3) := by decide +kernel
theorem dX11_fact_11 : decode cX11_fact 11 = .ok (.iconst 1, 1) := by decide +kernel
theorem dX11_fact_12 : decode cX11_fact 12 = .ok (.isub, 1) := by decide +kernel
theorem dX11_fact_13 : decode cX11_fact 13 = .ok (.invokestatic 122, 3) := by decide +kernel
theorem dX11_fact_16 : decode cX11_fact 16 = .ok (.ifCond .ne 5, 3) := by decide +kernel
theorem dX11_fact_19 : decode cX11_fact 19 = .ok (.iconst (-1), 1) := by decide +kernel
theorem dX11_fact_20 : decode cX11_fact 20 = .ok (.ireturn, 1) := by decide +kernel
theorem dX11_fact_21 : decode cX11_fact 21 = .ok (.aload_n 0, 1) := by decide +kernel
theorem dX11_fact_22 : decode cX11_fact 22 = .ok (.aload_n 0, 1) := by decide +kernel
theorem dX11_fact_23 : decode cX11_fact 23 = .ok (.getfield 119, 3) := by decide +kernel
theorem dX11_fact_26 : decode cX11_fact 26 = .ok (.putfield 112, 3) := by decide +kernel
theorem dX11_fact_29 : decode cX11_fact 29 = .ok (.aload_n 0, 1) := by decide +kernel
theorem dX11_fact_30 : decode cX11_fact 30 = .ok (.aload_n 0, 1) := by decide +kernel
theorem dX11_fact_31 : decode cX11_fact 31 = .ok (.getfield 20, 3) := by decide +kernel
theorem dX11_fact_34 : decode cX11_fact 34 = .ok (.bipush 25, 2) := by decide +kernel
theorem dX11_fact_36 : decode cX11_fact 36 = .ok (.iaload, 1) := by decide +kernel
theorem dX11_fact_37 : decode cX11_fact 37 = .ok (.aload_n 0, 1) := by decide +kernel
theorem dX11_fact_38 : decode cX11_fact 38 = .ok (.getfield 13, 3) := by decide +kernel
theorem dX11_fact_41 : decode cX11_fact 41 = .ok (.iload_n 1, 1) := by decide +kernel
theorem dX11_fact_42 : decode cX11_fact 42 = .ok (.iaload, 1) := by decide +kernel
theorem dX11_fact_43 : decode cX11_fact 43 = .ok (.aload_n 0, 1) := by decide +kernel
theorem dX11_fact_44 : decode cX11_fact 44 = .ok (.getfield 17, 3) := by decide +kernel
theorem dX11_fact_47 : decode cX11_fact 47 = .ok (.iload_n 1, 1) := by decide +kernel
theorem dX11_fact_48 : decode cX11_fact 48 = .ok (.iaload, 1) := by decide +kernel
theorem dX11_fact_49 : decode cX11_fact 49 = .ok (.invokevirtual 223, 3) := by decide +kernel
theorem dX11_fact_52 : decode cX11_fact 52 = .ok (.ireturn, 1) := by decide +kernel
theorem dX11_ruled_0 : decode cX11_ruled 0 = .ok (.aload_n 0, 1) := by decide +kernel
theorem dX11_ruled_1 : decode cX11_ruled 1 = .ok (.iconst 0, 1) := by decide +kernel
theorem dX11_ruled_2 : decode cX11_ruled 2 = .ok (.putfield 104, 3) := by decide +kernel
theorem dX11_ruled_5 : decode cX11_ruled 5 = .ok (.aload_n 0, 1) := by decide +kernel
theorem dX11_ruled_6 : decode cX11_ruled 6 = .ok (.aload_n 0, 1) := by decide +kernel
theorem dX11_ruled_7 : decode cX11_ruled 7 = .ok (.getfield 119, 3) := by decide +kernel
theorem dX11_ruled_10 : decode cX11_ruled 10 = .ok (.putfield 112, 3) := by decide +kernel
theorem dX11_ruled_13 : decode cX11_ruled 13 = .ok (.aload_n 0, 1) := by decide +kernel
theorem dX11_ruled_14 : decode cX11_ruled 14 = .ok (.aload_n 0, 1) := by decide +kernel
theorem dX11_ruled_15 : decode cX11_ruled 15 = .ok (.getfield 20, 3) := by decide +kernel
theorem dX11_ruled_18 : decode cX11_ruled 18 = .ok (.bipush 25, 2) := by decide +kernel
theorem dX11_ruled_20 : decode cX11_ruled 20 = .ok (.iaload, 1) := by decide +kernel
theorem dX11_ruled_21 : decode cX11_ruled 21 = .ok (.iconst 0, 1) := by decide +kernel
theorem dX11_ruled_22 : decode cX11_ruled 22 = .ok (.iconst 0, 1) := by decide +kernel
theorem dX11_ruled_23 : decode cX11_ruled 23 = .ok (.invokevirtual 182, 3) := by decide +kernel
theorem dX11_ruled_26 : decode cX11_ruled 26 = .ok (.aload_n 0, 1) := by decide +kernel
theorem dX11_ruled_27 : decode cX11_ruled 27 = .ok (.aload_n 0, 1) := by decide +kernel
theorem dX11_ruled_28 : decode cX11_ruled 28 = .ok (.getfield 20, 3) := by decide +kernel
theorem dX11_ruled_31 : decode cX11_ruled 31 = .ok (.bipush 25, 2) := by decide +kernel
theorem dX11_ruled_33 : decode cX11_ruled 33 = .ok (.iaload, 1) := by decide +kernel
theorem dX11_ruled_34 : decode cX11_ruled 34 = .ok (.invokevirtual 186, 3) := by decide +kernel
theorem dX11_ruled_37 : decode cX11_ruled 37 = .ok (.ifCond .eq 7, 3) := by decide +kernel
theorem dX11_ruled_40 : decode cX11_ruled 40 = .ok (.iconst 1, 1) := by decide +kernel
theorem dX11_ruled_41 : decode cX11_ruled 41 = .ok (.goto 4, 3) := by decide +kernel
theorem dX11_ruled_44 : decode cX11_ruled 44 = .ok (.iconst 0, 1) := by decide +kernel
theorem dX11_ruled_45 : decode cX11_ruled 45 = .ok (.ireturn, 1) := by decide +kernel
theorem dX11_isRegister_0 : decode cX11_isRegister 0 = .ok (.iload_n 0, 1) := by decide +kernel
theorem dX11_isRegister_1 : decode cX11_isRegister 1 = .ok (.iconst 0, 1) := by decide +kernel
theorem dX11_isRegister_2 : decode cX11_isRegister 2 = .ok (.iconst 3, 1) := by decide +kernel
theorem dX11_isRegister_3 : decode cX11_isRegister 3 = .ok (.invokestatic 122, 3) := by decide +kernel
theorem dX11_isRegister_6 : decode cX11_isRegister 6 = .ok (.ireturn, 1) := by decide +kernel
theorem dX11_equal_0 : decode cX11_equal 0 = .ok (.aload_n 0, 1) := by decide +kernel
theorem dX11_equal_1 : decode cX11_equal 1 = .ok (.iconst 0, 1) := by decide +kernel
theorem dX11_equal_2 : decode cX11_equal 2 = .ok (.putfield 104, 3) := by decide +kernel
theorem dX11_equal_5 : decode cX11_equal 5 = .ok (.iload_n 1, 1) := by decide +kernel
theorem dX11_equal_6 : decode cX11_equal 6 = .ok (.invokestatic 226, 3) := by decide +kernel
theorem dX11_equal_9 : decode cX11_equal 9 = .ok (.ifCond .eq 19, 3) := by decide +kernel
theorem dX11_equal_12 : decode cX11_equal 12 = .ok (.iload_n 2, 1) := by decide +kernel
theorem dX11_equal_13 : decode cX11_equal 13 = .ok (.invokestatic 226, 3) := by decide +kernel
theorem dX11_equal_16 : decode cX11_equal 16 = .ok (.ifCond .eq 12, 3) := by decide +kernel
theorem dX11_equal_19 : decode cX11_equal 19 = .ok (.iload_n 3, 1) := by decide +kernel
theorem dX11_equal_20 : decode cX11_equal 20 = .ok (.iconst 0, 1) := by decide +kernel
theorem dX11_equal_21 : decode cX11_equal 21 = .ok (.iconst 2, 1) := by decide +kernel
theorem dX11_equal_22 : decode cX11_equal 22 = .ok (.invokestatic 122, 3) := by decide +kernel
theorem dX11_equal_25 : decode cX11_equal 25 = .ok (.ifCond .ne 5, 3) := by decide +kernel
theorem dX11_equal_28 : decode cX11_equal 28 = .ok (.iconst (-1), 1) := by decide +kernel
theorem dX11_equal_29 : decode cX11_equal 29 = .ok (.ireturn, 1) := by decide +kernel
theorem dX11_equal_30 : decode cX11_equal 30 = .ok (.aload_n 0, 1) := by decide +kernel
theorem dX11_equal_31 : decode cX11_equal 31 = .ok (.invokevirtual 229, 3) := by decide +kernel
theorem dX11_equal_34 : decode cX11_equal 34 = .ok (.aload_n 0, 1) := by decide +kernel
theorem dX11_equal_35 : decode cX11_equal 35 = .ok (.aload_n 0, 1) := by decide +kernel
theorem dX11_equal_36 : decode cX11_equal 36 = .ok (.getfield 20, 3) := by decide +kernel
theorem dX11_equal_39 : decode cX11_equal 39 = .ok (.bipush 25, 2) := by decide +kernel
theorem dX11_equal_41 : decode cX11_equal 41 = .ok (.iaload, 1) := by decide +kernel
theorem dX11_equal_42 : decode cX11_equal 42 = .ok (.aload_n 0, 1) := by decide +kernel
theorem dX11_equal_43 : decode cX11_equal 43 = .ok (.getfield 92, 3) := by decide +kernel
theorem dX11_equal_46 : decode cX11_equal 46 = .ok (.iload_n 3, 1) := by decide +kernel
theorem dX11_equal_47 : decode cX11_equal 47 = .ok (.iconst 1, 1) := by decide +kernel
theorem dX11_equal_48 : decode cX11_equal 48 = .ok (.if_icmp .ne 9, 3) := by decide +kernel
theorem dX11_equal_51 : decode cX11_equal 51 = .ok (.iload_n 1, 1) := by decide +kernel
theorem dX11_equal_52 : decode cX11_equal 52 = .ok (.iconst 4, 1) := by decide +kernel
theorem dX11_equal_53 : decode cX11_equal 53 = .ok (.iadd, 1) := by decide +kernel
theorem dX11_equal_54 : decode cX11_equal 54 = .ok (.goto 4, 3) := by decide +kernel
theorem dX11_equal_57 : decode cX11_equal 57 = .ok (.iload_n 1, 1) := by decide +kernel
theorem dX11_equal_58 : decode cX11_equal 58 = .ok (.iaload, 1) := by decide +kernel
theorem dX11_equal_59 : decode cX11_equal 59 = .ok (.aload_n 0, 1) := by decide +kernel
theorem dX11_equal_60 : decode cX11_equal 60 = .ok (.getfield 92, 3) := by decide +kernel
theorem dX11_equal_63 : decode cX11_equal 63 = .ok (.iload_n 3, 1) := by decide +kernel
theorem dX11_equal_64 : decode cX11_equal 64 = .ok (.ifCond .ne 7, 3) := by decide +kernel
theorem dX11_equal_67 : decode cX11_equal 67 = .ok (.iload_n 2, 1) := by decide +kernel
theorem dX11_equal_68 : decode cX11_equal 68 = .ok (.goto 6, 3) := by decide +kernel
theorem dX11_equal_71 : decode cX11_equal 71 = .ok (.iload_n 2, 1) := by decide +kernel
theorem dX11_equal_72 : decode cX11_equal 72 = .ok (.iconst 4, 1) := by decide +kernel
theorem dX11_equal_73 : decode cX11_equal 73 = .ok (.iadd, 1) := by decide +kernel
theorem dX11_equal_74 : decode cX11_equal 74 = .ok (.iaload, 1) := by decide +kernel
theorem dX11_equal_75 : decode cX11_equal 75 = .ok (.invokevirtual 223, 3) := by decide +kernel
theorem dX11_equal_78 : decode cX11_equal 78 = .ok (.ireturn, 1) := by decide +kernel
theorem dX11_deep_0 : decode cX11_deep 0 = .ok (.aload_n 0, 1) := by decide +kernel
theorem dX11_deep_1 : decode cX11_deep 1 = .ok (.iconst 0, 1) := by decide +kernel
theorem dX11_deep_2 : decode cX11_deep 2 = .ok (.putfield 104, 3) := by decide +kernel
theorem dX11_deep_5 : decode cX11_deep 5 = .ok (.iload_n 1, 1) := by decide +kernel
theorem dX11_deep_6 : decode cX11_deep 6 = .ok (.invokestatic 226, 3) := by decide +kernel
theorem dX11_deep_9 : decode cX11_deep 9 = .ok (.ifCond .eq 12, 3) := by decide +kernel
theorem dX11_deep_12 : decode cX11_deep 12 = .ok (.iload_n 2, 1) := by decide +kernel
theorem dX11_deep_13 : decode cX11_deep 13 = .ok (.iconst 0, 1) := by decide +kernel
theorem dX11_deep_14 : decode cX11_deep 14 = .ok (.iconst 1, 1) := by decide +kernel
