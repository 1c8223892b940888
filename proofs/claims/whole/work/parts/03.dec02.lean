theorem dX8_init_56 : decode cX8_init 56 = .ok (.iload_n 3, 1) := by decide +kernel
theorem dX8_init_57 : decode cX8_init 57 = .ok (.iload_n 3, 1) := by decide +kernel
theorem dX8_init_58 : decode cX8_init 58 = .ok (.iastore, 1) := by decide +kernel
theorem dX8_init_59 : decode cX8_init 59 = .ok (.aload_n 0, 1) := by decide +kernel
theorem dX8_init_60 : decode cX8_init 60 = .ok (.getfield 21, 3) := by decide +kernel
theorem dX8_init_63 : decode cX8_init 63 = .ok (.iload_n 3, 1) := by decide +kernel
theorem dX8_init_64 : decode cX8_init 64 = .ok (.iload_n 3, 1) := by decide +kernel
theorem dX8_init_65 : decode cX8_init 65 = .ok (.iastore, 1) := by decide +kernel
theorem dX8_init_66 : decode cX8_init 66 = .ok (.aload_n 0, 1) := by decide +kernel
theorem dX8_init_67 : decode cX8_init 67 = .ok (.getfield 24, 3) := by decide +kernel
theorem dX8_init_70 : decode cX8_init 70 = .ok (.iload_n 3, 1) := by decide +kernel
theorem dX8_init_71 : decode cX8_init 71 = .ok (.iload_n 3, 1) := by decide +kernel
theorem dX8_init_72 : decode cX8_init 72 = .ok (.iastore, 1) := by decide +kernel
theorem dX8_init_73 : decode cX8_init 73 = .ok (.aload_n 0, 1) := by decide +kernel
theorem dX8_init_74 : decode cX8_init 74 = .ok (.getfield 30, 3) := by decide +kernel
theorem dX8_init_77 : decode cX8_init 77 = .ok (.iload_n 3, 1) := by decide +kernel
theorem dX8_init_78 : decode cX8_init 78 = .ok (.iconst 1, 1) := by decide +kernel
theorem dX8_init_79 : decode cX8_init 79 = .ok (.iastore, 1) := by decide +kernel
theorem dX8_init_80 : decode cX8_init 80 = .ok (.iinc 3 1, 3) := by decide +kernel
theorem dX8_init_83 : decode cX8_init 83 = .ok (.goto (-36), 3) := by decide +kernel
theorem dX8_init_86 : decode cX8_init 86 = .ok (.aload_n 0, 1) := by decide +kernel
theorem dX8_init_87 : decode cX8_init 87 = .ok (.invokevirtual 33, 3) := by decide +kernel
theorem dX8_init_90 : decode cX8_init 90 = .ok (.return_, 1) := by decide +kernel
theorem dX8_forgetAll_0 : decode cX8_forgetAll 0 = .ok (.aload_n 0, 1) := by decide +kernel
theorem dX8_forgetAll_1 : decode cX8_forgetAll 1 = .ok (.iconst 4, 1) := by decide +kernel
theorem dX8_forgetAll_2 : decode cX8_forgetAll 2 = .ok (.putfield 36, 3) := by decide +kernel
theorem dX8_forgetAll_5 : decode cX8_forgetAll 5 = .ok (.aload_n 0, 1) := by decide +kernel
theorem dX8_forgetAll_6 : decode cX8_forgetAll 6 = .ok (.iconst 4, 1) := by decide +kernel
theorem dX8_forgetAll_7 : decode cX8_forgetAll 7 = .ok (.putfield 40, 3) := by decide +kernel
theorem dX8_forgetAll_10 : decode cX8_forgetAll 10 = .ok (.return_, 1) := by decide +kernel
theorem dX8_makeLasting_0 : decode cX8_makeLasting 0 = .ok (.aload_n 0, 1) := by decide +kernel
theorem dX8_makeLasting_1 : decode cX8_makeLasting 1 = .ok (.aload_n 0, 1) := by decide +kernel
theorem dX8_makeLasting_2 : decode cX8_makeLasting 2 = .ok (.getfield 36, 3) := by decide +kernel
theorem dX8_makeLasting_5 : decode cX8_makeLasting 5 = .ok (.putfield 40, 3) := by decide +kernel
theorem dX8_makeLasting_8 : decode cX8_makeLasting 8 = .ok (.return_, 1) := by decide +kernel
theorem dX8_dropPassing_0 : decode cX8_dropPassing 0 = .ok (.aload_n 0, 1) := by decide +kernel
theorem dX8_dropPassing_1 : decode cX8_dropPassing 1 = .ok (.aload_n 0, 1) := by decide +kernel
theorem dX8_dropPassing_2 : decode cX8_dropPassing 2 = .ok (.getfield 40, 3) := by decide +kernel
theorem dX8_dropPassing_5 : decode cX8_dropPassing 5 = .ok (.putfield 36, 3) := by decide +kernel
theorem dX8_dropPassing_8 : decode cX8_dropPassing 8 = .ok (.return_, 1) := by decide +kernel
theorem dX8_has_0 : decode cX8_has 0 = .ok (.iload_n 1, 1) := by decide +kernel
theorem dX8_has_1 : decode cX8_has 1 = .ok (.ifCond .lt 24, 3) := by decide +kernel
theorem dX8_has_4 : decode cX8_has 4 = .ok (.iload_n 1, 1) := by decide +kernel
theorem dX8_has_5 : decode cX8_has 5 = .ok (.aload_n 0, 1) := by decide +kernel
theorem dX8_has_6 : decode cX8_has 6 = .ok (.getfield 36, 3) := by decide +kernel
theorem dX8_has_9 : decode cX8_has 9 = .ok (.if_icmp .ge 16, 3) := by decide +kernel
theorem dX8_has_12 : decode cX8_has 12 = .ok (.iload_n 1, 1) := by decide +kernel
theorem dX8_has_13 : decode cX8_has 13 = .ok (.aload_n 0, 1) := by decide +kernel
theorem dX8_has_14 : decode cX8_has 14 = .ok (.getfield 15, 3) := by decide +kernel
theorem dX8_has_17 : decode cX8_has 17 = .ok (.arraylength, 1) := by decide +kernel
theorem dX8_has_18 : decode cX8_has 18 = .ok (.if_icmp .ge 7, 3) := by decide +kernel
theorem dX8_has_21 : decode cX8_has 21 = .ok (.iconst 1, 1) := by decide +kernel
theorem dX8_has_22 : decode cX8_has 22 = .ok (.goto 4, 3) := by decide +kernel
theorem dX8_has_25 : decode cX8_has 25 = .ok (.iconst 0, 1) := by decide +kernel
theorem dX8_has_26 : decode cX8_has 26 = .ok (.ireturn, 1) := by decide +kernel
theorem dX8_make_0 : decode cX8_make 0 = .ok (.iload_n 1, 1) := by decide +kernel
theorem dX8_make_1 : decode cX8_make 1 = .ok (.iconst 5, 1) := by decide +kernel
theorem dX8_make_2 : decode cX8_make 2 = .ok (.if_icmp .ne 7, 3) := by decide +kernel
theorem dX8_make_5 : decode cX8_make 5 = .ok (.iload_n 3, 1) := by decide +kernel
theorem dX8_make_6 : decode cX8_make 6 = .ok (.goto 4, 3) := by decide +kernel
theorem dX8_make_9 : decode cX8_make 9 = .ok (.iload_n 2, 1) := by decide +kernel
theorem dX8_make_10 : decode cX8_make 10 = .ok (.istore 4, 2) := by decide +kernel
theorem dX8_make_12 : decode cX8_make 12 = .ok (.aload_n 0, 1) := by decide +kernel
theorem dX8_make_13 : decode cX8_make 13 = .ok (.iload_n 1, 1) := by decide +kernel
theorem dX8_make_14 : decode cX8_make 14 = .ok (.iload_n 2, 1) := by decide +kernel
theorem dX8_make_15 : decode cX8_make 15 = .ok (.iload 4, 2) := by decide +kernel
theorem dX8_make_17 : decode cX8_make 17 = .ok (.invokevirtual 43, 3) := by decide +kernel
theorem dX8_make_20 : decode cX8_make 20 = .ok (.istore 5, 2) := by decide +kernel
theorem dX8_make_22 : decode cX8_make 22 = .ok (.aload_n 0, 1) := by decide +kernel
theorem dX8_make_23 : decode cX8_make 23 = .ok (.iload_n 2, 1) := by decide +kernel
theorem dX8_make_24 : decode cX8_make 24 = .ok (.invokevirtual 47, 3) := by decide +kernel
theorem dX8_make_27 : decode cX8_make 27 = .ok (.ifCond .eq 27, 3) := by decide +kernel
theorem dX8_make_30 : decode cX8_make 30 = .ok (.aload_n 0, 1) := by decide +kernel
theorem dX8_make_31 : decode cX8_make 31 = .ok (.iload 4, 2) := by decide +kernel
theorem dX8_make_33 : decode cX8_make 33 = .ok (.invokevirtual 47, 3) := by decide +kernel
theorem dX8_make_36 : decode cX8_make 36 = .ok (.ifCond .eq 18, 3) := by decide +kernel
theorem dX8_make_39 : decode cX8_make 39 = .ok (.iload 5, 2) := by decide +kernel
theorem dX8_make_41 : decode cX8_make 41 = .ok (.ifCond .lt 13, 3) := by decide +kernel
theorem dX8_make_44 : decode cX8_make 44 = .ok (.iload 5, 2) := by decide +kernel
theorem dX8_make_46 : decode cX8_make 46 = .ok (.aload_n 0, 1) := by decide +kernel
theorem dX8_make_47 : decode cX8_make 47 = .ok (.getfield 15, 3) := by decide +kernel
theorem dX8_make_50 : decode cX8_make 50 = .ok (.arraylength, 1) := by decide +kernel
theorem dX8_make_51 : decode cX8_make 51 = .ok (.if_icmp .lt 5, 3) := by decide +kernel
theorem dX8_make_54 : decode cX8_make 54 = .ok (.iconst 0, 1) := by decide +kernel
theorem dX8_make_55 : decode cX8_make 55 = .ok (.ireturn, 1) := by decide +kernel
theorem dX8_make_56 : decode cX8_make 56 = .ok (.iload 5, 2) := by decide +kernel
theorem dX8_make_58 : decode cX8_make 58 = .ok (.aload_n 0, 1) := by decide +kernel
theorem dX8_make_59 : decode cX8_make 59 = .ok (.getfield 36, 3) := by decide +kernel
theorem dX8_make_62 : decode cX8_make 62 = .ok (.if_icmp .lt 93, 3) := by decide +kernel
theorem dX8_make_65 : decode cX8_make 65 = .ok (.aload_n 0, 1) := by decide +kernel
theorem dX8_make_66 : decode cX8_make 66 = .ok (.getfield 15, 3) := by decide +kernel
theorem dX8_make_69 : decode cX8_make 69 = .ok (.iload 5, 2) := by decide +kernel
theorem dX8_make_71 : decode cX8_make 71 = .ok (.iload_n 1, 1) := by decide +kernel
theorem dX8_make_72 : decode cX8_make 72 = .ok (.iastore, 1) := by decide +kernel
theorem dX8_make_73 : decode cX8_make 73 = .ok (.aload_n 0, 1) := by decide +kernel
theorem dX8_make_74 : decode cX8_make 74 = .ok (.getfield 21, 3) := by decide +kernel
theorem dX8_make_77 : decode cX8_make 77 = .ok (.iload 5, 2) := by decide +kernel
theorem dX8_make_79 : decode cX8_make 79 = .ok (.iload_n 2, 1) := by decide +kernel
theorem dX8_make_80 : decode cX8_make 80 = .ok (.iastore, 1) := by decide +kernel
theorem dX8_make_81 : decode cX8_make 81 = .ok (.aload_n 0, 1) := by decide +kernel
theorem dX8_make_82 : decode cX8_make 82 = .ok (.getfield 24, 3) := by decide +kernel
theorem dX8_make_85 : decode cX8_make 85 = .ok (.iload 5, 2) := by decide +kernel
theorem dX8_make_87 : decode cX8_make 87 = .ok (.iload 4, 2) := by decide +kernel
theorem dX8_make_89 : decode cX8_make 89 = .ok (.iastore, 1) := by decide +kernel
theorem dX8_make_90 : decode cX8_make 90 = .ok (.aload_n 0, 1) := by decide +kernel
theorem dX8_make_91 : decode cX8_make 91 = .ok (.getfield 27, 3) := by decide +kernel
theorem dX8_make_94 : decode cX8_make 94 = .ok (.iload 5, 2) := by decide +kernel
theorem dX8_make_96 : decode cX8_make 96 = .ok (.iconst 1, 1) := by decide +kernel
theorem dX8_make_97 : decode cX8_make 97 = .ok (.aload_n 0, 1) := by decide +kernel
theorem dX8_make_98 : decode cX8_make 98 = .ok (.getfield 27, 3) := by decide +kernel
theorem dX8_make_101 : decode cX8_make 101 = .ok (.iload_n 2, 1) := by decide +kernel
theorem dX8_make_102 : decode cX8_make 102 = .ok (.iaload, 1) := by decide +kernel
theorem dX8_make_103 : decode cX8_make 103 = .ok (.aload_n 0, 1) := by decide +kernel
theorem dX8_make_104 : decode cX8_make 104 = .ok (.getfield 27, 3) := by decide +kernel
theorem dX8_make_107 : decode cX8_make 107 = .ok (.iload 4, 2) := by decide +kernel
theorem dX8_make_109 : decode cX8_make 109 = .ok (.iaload, 1) := by decide +kernel
theorem dX8_make_110 : decode cX8_make 110 = .ok (.invokestatic 9, 3) := by decide +kernel
theorem dX8_make_113 : decode cX8_make 113 = .ok (.iadd, 1) := by decide +kernel
theorem dX8_make_114 : decode cX8_make 114 = .ok (.iastore, 1) := by decide +kernel
theorem dX8_make_115 : decode cX8_make 115 = .ok (.aload_n 0, 1) := by decide +kernel
theorem dX8_make_116 : decode cX8_make 116 = .ok (.getfield 30, 3) := by decide +kernel
theorem dX8_make_119 : decode cX8_make 119 = .ok (.iload 5, 2) := by decide +kernel
theorem dX8_make_121 : decode cX8_make 121 = .ok (.iconst 1, 1) := by decide +kernel
theorem dX8_make_122 : decode cX8_make 122 = .ok (.aload_n 0, 1) := by decide +kernel
theorem dX8_make_123 : decode cX8_make 123 = .ok (.getfield 30, 3) := by decide +kernel
theorem dX8_make_126 : decode cX8_make 126 = .ok (.iload_n 2, 1) := by decide +kernel
theorem dX8_make_127 : decode cX8_make 127 = .ok (.iaload, 1) := by decide +kernel
theorem dX8_make_128 : decode cX8_make 128 = .ok (.iadd, 1) := by decide +kernel
theorem dX8_make_129 : decode cX8_make 129 = .ok (.iload_n 1, 1) := by decide +kernel
theorem dX8_make_130 : decode cX8_make 130 = .ok (.iconst 5, 1) := by decide +kernel
theorem dX8_make_131 : decode cX8_make 131 = .ok (.if_icmp .ne 13, 3) := by decide +kernel
theorem dX8_make_134 : decode cX8_make 134 = .ok (.aload_n 0, 1) := by decide +kernel
theorem dX8_make_135 : decode cX8_make 135 = .ok (.getfield 30, 3) := by decide +kernel
theorem dX8_make_138 : decode cX8_make 138 = .ok (.iload 4, 2) := by decide +kernel
theorem dX8_make_140 : decode cX8_make 140 = .ok (.iaload, 1) := by decide +kernel
theorem dX8_make_141 : decode cX8_make 141 = .ok (.goto 4, 3) := by decide +kernel
theorem dX8_make_144 : decode cX8_make 144 = .ok (.iconst 0, 1) := by decide +kernel
theorem dX8_make_145 : decode cX8_make 145 = .ok (.iadd, 1) := by decide +kernel
theorem dX8_make_146 : decode cX8_make 146 = .ok (.iastore, 1) := by decide +kernel
theorem dX8_make_147 : decode cX8_make 147 = .ok (.aload_n 0, 1) := by decide +kernel
theorem dX8_make_148 : decode cX8_make 148 = .ok (.iload 5, 2) := by decide +kernel
theorem dX8_make_150 : decode cX8_make 150 = .ok (.iconst 1, 1) := by decide +kernel
theorem dX8_make_151 : decode cX8_make 151 = .ok (.iadd, 1) := by decide +kernel
theorem dX8_make_152 : decode cX8_make 152 = .ok (.putfield 36, 3) := by decide +kernel
theorem dX8_make_155 : decode cX8_make 155 = .ok (.iload 5, 2) := by decide +kernel
theorem dX8_make_157 : decode cX8_make 157 = .ok (.ireturn, 1) := by decide +kernel
theorem dX8_placeOf_0 : decode cX8_placeOf 0 = .ok (.iconst 4, 1) := by decide +kernel
theorem dX8_placeOf_1 : decode cX8_placeOf 1 = .ok (.istore 4, 2) := by decide +kernel
theorem dX8_placeOf_3 : decode cX8_placeOf 3 = .ok (.iload 4, 2) := by decide +kernel
theorem dX8_placeOf_5 : decode cX8_placeOf 5 = .ok (.aload_n 0, 1) := by decide +kernel
theorem dX8_placeOf_6 : decode cX8_placeOf 6 = .ok (.getfield 36, 3) := by decide +kernel
theorem dX8_placeOf_9 : decode cX8_placeOf 9 = .ok (.if_icmp .ge 55, 3) := by decide +kernel
theorem dX8_placeOf_12 : decode cX8_placeOf 12 = .ok (.iload 4, 2) := by decide +kernel
theorem dX8_placeOf_14 : decode cX8_placeOf 14 = .ok (.aload_n 0, 1) := by decide +kernel
theorem dX8_placeOf_15 : decode cX8_placeOf 15 = .ok (.getfield 15, 3) := by decide +kernel
theorem dX8_placeOf_18 : decode cX8_placeOf 18 = .ok (.arraylength, 1) := by decide +kernel
theorem dX8_placeOf_19 : decode cX8_placeOf 19 = .ok (.if_icmp .ge 45, 3) := by decide +kernel
theorem dX8_placeOf_22 : decode cX8_placeOf 22 = .ok (.aload_n 0, 1) := by decide +kernel
theorem dX8_placeOf_23 : decode cX8_placeOf 23 = .ok (.getfield 15, 3) := by decide +kernel
theorem dX8_placeOf_26 : decode cX8_placeOf 26 = .ok (.iload 4, 2) := by decide +kernel
theorem dX8_placeOf_28 : decode cX8_placeOf 28 = .ok (.iaload, 1) := by decide +kernel
theorem dX8_placeOf_29 : decode cX8_placeOf 29 = .ok (.iload_n 1, 1) := by decide +kernel
theorem dX8_placeOf_30 : decode cX8_placeOf 30 = .ok (.if_icmp .ne 28, 3) := by decide +kernel
theorem dX8_placeOf_33 : decode cX8_placeOf 33 = .ok (.aload_n 0, 1) := by decide +kernel
theorem dX8_placeOf_34 : decode cX8_placeOf 34 = .ok (.getfield 21, 3) := by decide +kernel
theorem dX8_placeOf_37 : decode cX8_placeOf 37 = .ok (.iload 4, 2) := by decide +kernel
theorem dX8_placeOf_39 : decode cX8_placeOf 39 = .ok (.iaload, 1) := by decide +kernel
theorem dX8_placeOf_40 : decode cX8_placeOf 40 = .ok (.iload_n 2, 1) := by decide +kernel
theorem dX8_placeOf_41 : decode cX8_placeOf 41 = .ok (.if_icmp .ne 17, 3) := by decide +kernel
theorem dX8_placeOf_44 : decode cX8_placeOf 44 = .ok (.aload_n 0, 1) := by decide +kernel
theorem dX8_placeOf_45 : decode cX8_placeOf 45 = .ok (.getfield 24, 3) := by decide +kernel
theorem dX8_placeOf_48 : decode cX8_placeOf 48 = .ok (.iload 4, 2) := by decide +kernel
theorem dX8_placeOf_50 : decode cX8_placeOf 50 = .ok (.iaload, 1) := by decide +kernel
theorem dX8_placeOf_51 : decode cX8_placeOf 51 = .ok (.iload_n 3, 1) := by decide +kernel
theorem dX8_placeOf_52 : decode cX8_placeOf 52 = .ok (.if_icmp .ne 6, 3) := by decide +kernel
theorem dX8_placeOf_55 : decode cX8_placeOf 55 = .ok (.iload 4, 2) := by decide +kernel
theorem dX8_placeOf_57 : decode cX8_placeOf 57 = .ok (.ireturn, 1) := by decide +kernel
theorem dX8_placeOf_58 : decode cX8_placeOf 58 = .ok (.iinc 4 1, 3) := by decide +kernel
theorem dX8_placeOf_61 : decode cX8_placeOf 61 = .ok (.goto (-58), 3) := by decide +kernel
theorem dX8_placeOf_64 : decode cX8_placeOf 64 = .ok (.aload_n 0, 1) := by decide +kernel
theorem dX8_placeOf_65 : decode cX8_placeOf 65 = .ok (.getfield 36, 3) := by decide +kernel
theorem dX8_placeOf_68 : decode cX8_placeOf 68 = .ok (.ireturn, 1) := by decide +kernel
theorem dX8_depthOf_0 : decode cX8_depthOf 0 = .ok (.aload_n 0, 1) := by decide +kernel
theorem dX8_depthOf_1 : decode cX8_depthOf 1 = .ok (.iload_n 1, 1) := by decide +kernel
theorem dX8_depthOf_2 : decode cX8_depthOf 2 = .ok (.invokevirtual 47, 3) := by decide +kernel
theorem dX8_depthOf_5 : decode cX8_depthOf 5 = .ok (.ifCond .eq 12, 3) := by decide +kernel
theorem dX8_depthOf_8 : decode cX8_depthOf 8 = .ok (.aload_n 0, 1) := by decide +kernel
theorem dX8_depthOf_9 : decode cX8_depthOf 9 = .ok (.getfield 27, 3) := by decide +kernel
theorem dX8_depthOf_12 : decode cX8_depthOf 12 = .ok (.iload_n 1, 1) := by decide +kernel
theorem dX8_depthOf_13 : decode cX8_depthOf 13 = .ok (.iaload, 1) := by decide +kernel
theorem dX8_depthOf_14 : decode cX8_depthOf 14 = .ok (.goto 4, 3) := by decide +kernel
theorem dX8_depthOf_17 : decode cX8_depthOf 17 = .ok (.iconst 0, 1) := by decide +kernel
theorem dX8_depthOf_18 : decode cX8_depthOf 18 = .ok (.ireturn, 1) := by decide +kernel
theorem dX8_lettersOf_0 : decode cX8_lettersOf 0 = .ok (.aload_n 0, 1) := by decide +kernel
theorem dX8_lettersOf_1 : decode cX8_lettersOf 1 = .ok (.iload_n 1, 1) := by decide +kernel
theorem dX8_lettersOf_2 : decode cX8_lettersOf 2 = .ok (.invokevirtual 47, 3) := by decide +kernel
theorem dX8_lettersOf_5 : decode cX8_lettersOf 5 = .ok (.ifCond .eq 12, 3) := by decide +kernel
theorem dX8_lettersOf_8 : decode cX8_lettersOf 8 = .ok (.aload_n 0, 1) := by decide +kernel
theorem dX8_lettersOf_9 : decode cX8_lettersOf 9 = .ok (.getfield 30, 3) := by decide +kernel
theorem dX8_lettersOf_12 : decode cX8_lettersOf 12 = .ok (.iload_n 1, 1) := by decide +kernel
theorem dX8_lettersOf_13 : decode cX8_lettersOf 13 = .ok (.iaload, 1) := by decide +kernel
theorem dX8_lettersOf_14 : decode cX8_lettersOf 14 = .ok (.goto 4, 3) := by decide +kernel
theorem dX8_lettersOf_17 : decode cX8_lettersOf 17 = .ok (.iconst 0, 1) := by decide +kernel
theorem dX8_lettersOf_18 : decode cX8_lettersOf 18 = .ok (.ireturn, 1) := by decide +kernel
theorem dX8_leftOf_0 : decode cX8_leftOf 0 = .ok (.aload_n 0, 1) := by decide +kernel
theorem dX8_leftOf_1 : decode cX8_leftOf 1 = .ok (.iload_n 1, 1) := by decide +kernel
theorem dX8_leftOf_2 : decode cX8_leftOf 2 = .ok (.invokevirtual 47, 3) := by decide +kernel
theorem dX8_leftOf_5 : decode cX8_leftOf 5 = .ok (.ifCond .eq 12, 3) := by decide +kernel
theorem dX8_leftOf_8 : decode cX8_leftOf 8 = .ok (.aload_n 0, 1) := by decide +kernel
theorem dX8_leftOf_9 : decode cX8_leftOf 9 = .ok (.getfield 21, 3) := by decide +kernel
theorem dX8_leftOf_12 : decode cX8_leftOf 12 = .ok (.iload_n 1, 1) := by decide +kernel
theorem dX8_leftOf_13 : decode cX8_leftOf 13 = .ok (.iaload, 1) := by decide +kernel
theorem dX8_leftOf_14 : decode cX8_leftOf 14 = .ok (.goto 4, 3) := by decide +kernel
theorem dX8_leftOf_17 : decode cX8_leftOf 17 = .ok (.iconst (-1), 1) := by decide +kernel
theorem dX8_leftOf_18 : decode cX8_leftOf 18 = .ok (.ireturn, 1) := by decide +kernel
theorem dX8_rightOf_0 : decode cX8_rightOf 0 = .ok (.aload_n 0, 1) := by decide +kernel
theorem dX8_rightOf_1 : decode cX8_rightOf 1 = .ok (.iload_n 1, 1) := by decide +kernel
theorem dX8_rightOf_2 : decode cX8_rightOf 2 = .ok (.invokevirtual 47, 3) := by decide +kernel
theorem dX8_rightOf_5 : decode cX8_rightOf 5 = .ok (.ifCond .eq 12, 3) := by decide +kernel
theorem dX8_rightOf_8 : decode cX8_rightOf 8 = .ok (.aload_n 0, 1) := by decide +kernel
theorem dX8_rightOf_9 : decode cX8_rightOf 9 = .ok (.getfield 24, 3) := by decide +kernel
theorem dX8_rightOf_12 : decode cX8_rightOf 12 = .ok (.iload_n 1, 1) := by decide +kernel
theorem dX8_rightOf_13 : decode cX8_rightOf 13 = .ok (.iaload, 1) := by decide +kernel
theorem dX8_rightOf_14 : decode cX8_rightOf 14 = .ok (.goto 4, 3) := by decide +kernel
theorem dX8_rightOf_17 : decode cX8_rightOf 17 = .ok (.iconst (-1), 1) := by decide +kernel
theorem dX8_rightOf_18 : decode cX8_rightOf 18 = .ok (.ireturn, 1) := by decide +kernel
theorem dX8_headOf_0 : decode cX8_headOf 0 = .ok (.aload_n 0, 1) := by decide +kernel
theorem dX8_headOf_1 : decode cX8_headOf 1 = .ok (.iload_n 1, 1) := by decide +kernel
theorem dX8_headOf_2 : decode cX8_headOf 2 = .ok (.invokevirtual 47, 3) := by decide +kernel
theorem dX8_headOf_5 : decode cX8_headOf 5 = .ok (.ifCond .eq 12, 3) := by decide +kernel
theorem dX8_headOf_8 : decode cX8_headOf 8 = .ok (.aload_n 0, 1) := by decide +kernel
theorem dX8_headOf_9 : decode cX8_headOf 9 = .ok (.getfield 15, 3) := by decide +kernel
theorem dX8_headOf_12 : decode cX8_headOf 12 = .ok (.iload_n 1, 1) := by decide +kernel
theorem dX8_headOf_13 : decode cX8_headOf 13 = .ok (.iaload, 1) := by decide +kernel
theorem dX8_headOf_14 : decode cX8_headOf 14 = .ok (.goto 4, 3) := by decide +kernel
theorem dX8_headOf_17 : decode cX8_headOf 17 = .ok (.iconst (-1), 1) := by decide +kernel
theorem dX8_headOf_18 : decode cX8_headOf 18 = .ok (.ireturn, 1) := by decide +kernel
theorem dX8_letterOf_0 : decode cX8_letterOf 0 = .ok (.aload_n 0, 1) := by decide +kernel
theorem dX8_letterOf_1 : decode cX8_letterOf 1 = .ok (.iload_n 1, 1) := by decide +kernel
theorem dX8_letterOf_2 : decode cX8_letterOf 2 = .ok (.invokevirtual 47, 3) := by decide +kernel
theorem dX8_letterOf_5 : decode cX8_letterOf 5 = .ok (.ifCond .eq 17, 3) := by decide +kernel
theorem dX8_letterOf_8 : decode cX8_letterOf 8 = .ok (.iload_n 2, 1) := by decide +kernel
theorem dX8_letterOf_9 : decode cX8_letterOf 9 = .ok (.ifCond .lt 13, 3) := by decide +kernel
theorem dX8_letterOf_12 : decode cX8_letterOf 12 = .ok (.iload_n 2, 1) := by decide +kernel
theorem dX8_letterOf_13 : decode cX8_letterOf 13 = .ok (.aload_n 0, 1) := by decide +kernel
theorem dX8_letterOf_14 : decode cX8_letterOf 14 = .ok (.getfield 30, 3) := by decide +kernel
theorem dX8_letterOf_17 : decode cX8_letterOf 17 = .ok (.iload_n 1, 1) := by decide +kernel
theorem dX8_letterOf_18 : decode cX8_letterOf 18 = .ok (.iaload, 1) := by decide +kernel
theorem dX8_letterOf_19 : decode cX8_letterOf 19 = .ok (.if_icmp .lt 6, 3) := by decide +kernel
theorem dX8_letterOf_22 : decode cX8_letterOf 22 = .ok (.bipush (-9), 2) := by decide +kernel
theorem dX8_letterOf_24 : decode cX8_letterOf 24 = .ok (.ireturn, 1) := by decide +kernel
theorem dX8_letterOf_25 : decode cX8_letterOf 25 = .ok (.iload_n 1, 1) := by decide +kernel
theorem dX8_letterOf_26 : decode cX8_letterOf 26 = .ok (.istore_n 3, 1) := by decide +kernel
theorem dX8_letterOf_27 : decode cX8_letterOf 27 = .ok (.iload_n 2, 1) := by decide +kernel
theorem dX8_letterOf_28 : decode cX8_letterOf 28 = .ok (.istore 4, 2) := by decide +kernel
theorem dX8_letterOf_30 : decode cX8_letterOf 30 = .ok (.iconst 0, 1) := by decide +kernel
theorem dX8_letterOf_31 : decode cX8_letterOf 31 = .ok (.istore 5, 2) := by decide +kernel
theorem dX8_letterOf_33 : decode cX8_letterOf 33 = .ok (.iload 5, 2) := by decide +kernel
theorem dX8_letterOf_35 : decode cX8_letterOf 35 = .ok (.aload_n 0, 1) := by decide +kernel
theorem dX8_letterOf_36 : decode cX8_letterOf 36 = .ok (.getfield 15, 3) := by decide +kernel
theorem dX8_letterOf_39 : decode cX8_letterOf 39 = .ok (.arraylength, 1) := by decide +kernel
theorem dX8_letterOf_40 : decode cX8_letterOf 40 = .ok (.if_icmp .ge 68, 3) := by decide +kernel
theorem dX8_letterOf_43 : decode cX8_letterOf 43 = .ok (.iload 4, 2) := by decide +kernel
theorem dX8_letterOf_45 : decode cX8_letterOf 45 = .ok (.ifCond .le 63, 3) := by decide +kernel
theorem dX8_letterOf_48 : decode cX8_letterOf 48 = .ok (.aload_n 0, 1) := by decide +kernel
theorem dX8_letterOf_49 : decode cX8_letterOf 49 = .ok (.iload_n 3, 1) := by decide +kernel
theorem dX8_letterOf_50 : decode cX8_letterOf 50 = .ok (.invokevirtual 47, 3) := by decide +kernel
theorem dX8_letterOf_53 : decode cX8_letterOf 53 = .ok (.ifCond .eq 55, 3) := by decide +kernel
theorem dX8_letterOf_56 : decode cX8_letterOf 56 = .ok (.iinc 4 (-1), 3) := by decide +kernel
theorem dX8_letterOf_59 : decode cX8_letterOf 59 = .ok (.aload_n 0, 1) := by decide +kernel
theorem dX8_letterOf_60 : decode cX8_letterOf 60 = .ok (.aload_n 0, 1) := by decide +kernel
theorem dX8_letterOf_61 : decode cX8_letterOf 61 = .ok (.getfield 21, 3) := by decide +kernel
theorem dX8_letterOf_64 : decode cX8_letterOf 64 = .ok (.iload_n 3, 1) := by decide +kernel
theorem dX8_letterOf_65 : decode cX8_letterOf 65 = .ok (.iaload, 1) := by decide +kernel
theorem dX8_letterOf_66 : decode cX8_letterOf 66 = .ok (.invokevirtual 51, 3) := by decide +kernel
theorem dX8_letterOf_69 : decode cX8_letterOf 69 = .ok (.istore 6, 2) := by decide +kernel
theorem dX8_letterOf_71 : decode cX8_letterOf 71 = .ok (.iload 4, 2) := by decide +kernel
theorem dX8_letterOf_73 : decode cX8_letterOf 73 = .ok (.iload 6, 2) := by decide +kernel
theorem dX8_letterOf_75 : decode cX8_letterOf 75 = .ok (.if_icmp .ge 13, 3) := by decide +kernel
theorem dX8_letterOf_78 : decode cX8_letterOf 78 = .ok (.aload_n 0, 1) := by decide +kernel
theorem dX8_letterOf_79 : decode cX8_letterOf 79 = .ok (.getfield 21, 3) := by decide +kernel
theorem dX8_letterOf_82 : decode cX8_letterOf 82 = .ok (.iload_n 3, 1) := by decide +kernel
theorem dX8_letterOf_83 : decode cX8_letterOf 83 = .ok (.iaload, 1) := by decide +kernel
theorem dX8_letterOf_84 : decode cX8_letterOf 84 = .ok (.istore_n 3, 1) := by decide +kernel
theorem dX8_letterOf_85 : decode cX8_letterOf 85 = .ok (.goto 17, 3) := by decide +kernel
theorem dX8_letterOf_88 : decode cX8_letterOf 88 = .ok (.iload 4, 2) := by decide +kernel
theorem dX8_letterOf_90 : decode cX8_letterOf 90 = .ok (.iload 6, 2) := by decide +kernel
theorem dX8_letterOf_92 : decode cX8_letterOf 92 = .ok (.isub, 1) := by decide +kernel
theorem dX8_letterOf_93 : decode cX8_letterOf 93 = .ok (.istore 4, 2) := by decide +kernel
theorem dX8_letterOf_95 : decode cX8_letterOf 95 = .ok (.aload_n 0, 1) := by decide +kernel
theorem dX8_letterOf_96 : decode cX8_letterOf 96 = .ok (.getfield 24, 3) := by decide +kernel
theorem dX8_letterOf_99 : decode cX8_letterOf 99 = .ok (.iload_n 3, 1) := by decide +kernel
theorem dX8_letterOf_100 : decode cX8_letterOf 100 = .ok (.iaload, 1) := by decide +kernel
theorem dX8_letterOf_101 : decode cX8_letterOf 101 = .ok (.istore_n 3, 1) := by decide +kernel
theorem dX8_letterOf_102 : decode cX8_letterOf 102 = .ok (.iinc 5 1, 3) := by decide +kernel
theorem dX8_letterOf_105 : decode cX8_letterOf 105 = .ok (.goto (-72), 3) := by decide +kernel
theorem dX8_letterOf_108 : decode cX8_letterOf 108 = .ok (.aload_n 0, 1) := by decide +kernel
theorem dX8_letterOf_109 : decode cX8_letterOf 109 = .ok (.iload_n 3, 1) := by decide +kernel
theorem dX8_letterOf_110 : decode cX8_letterOf 110 = .ok (.invokevirtual 47, 3) := by decide +kernel
theorem dX8_letterOf_113 : decode cX8_letterOf 113 = .ok (.ifCond .eq 15, 3) := by decide +kernel
theorem dX8_letterOf_116 : decode cX8_letterOf 116 = .ok (.aload_n 0, 1) := by decide +kernel
theorem dX8_letterOf_117 : decode cX8_letterOf 117 = .ok (.getfield 15, 3) := by decide +kernel
theorem dX8_letterOf_120 : decode cX8_letterOf 120 = .ok (.iload_n 3, 1) := by decide +kernel
theorem dX8_letterOf_121 : decode cX8_letterOf 121 = .ok (.iaload, 1) := by decide +kernel
theorem dX8_letterOf_122 : decode cX8_letterOf 122 = .ok (.invokestatic 55, 3) := by decide +kernel
theorem dX8_letterOf_125 : decode cX8_letterOf 125 = .ok (.goto 5, 3) := by decide +kernel
theorem dX8_letterOf_128 : decode cX8_letterOf 128 = .ok (.bipush (-9), 2) := by decide +kernel
theorem dX8_letterOf_130 : decode cX8_letterOf 130 = .ok (.ireturn, 1) := by decide +kernel
theorem dX8_signOf_0 : decode cX8_signOf 0 = .ok (.iload_n 0, 1) := by decide +kernel
theorem dX8_signOf_1 : decode cX8_signOf 1 = .ok (.iconst 4, 1) := by decide +kernel
theorem dX8_signOf_2 : decode cX8_signOf 2 = .ok (.if_icmp .ne 8, 3) := by decide +kernel
theorem dX8_signOf_5 : decode cX8_signOf 5 = .ok (.bipush 102, 2) := by decide +kernel
theorem dX8_signOf_7 : decode cX8_signOf 7 = .ok (.goto 17, 3) := by decide +kernel
theorem dX8_signOf_10 : decode cX8_signOf 10 = .ok (.iload_n 0, 1) := by decide +kernel
theorem dX8_signOf_11 : decode cX8_signOf 11 = .ok (.iconst 5, 1) := by decide +kernel
theorem dX8_signOf_12 : decode cX8_signOf 12 = .ok (.if_icmp .ne 8, 3) := by decide +kernel
theorem dX8_signOf_15 : decode cX8_signOf 15 = .ok (.bipush 103, 2) := by decide +kernel
theorem dX8_signOf_17 : decode cX8_signOf 17 = .ok (.goto 7, 3) := by decide +kernel
theorem dX8_signOf_20 : decode cX8_signOf 20 = .ok (.bipush 97, 2) := by decide +kernel
theorem dX8_signOf_22 : decode cX8_signOf 22 = .ok (.iload_n 0, 1) := by decide +kernel
theorem dX8_signOf_23 : decode cX8_signOf 23 = .ok (.iadd, 1) := by decide +kernel
theorem dX8_signOf_24 : decode cX8_signOf 24 = .ok (.ireturn, 1) := by decide +kernel
theorem dX9_init_0 : decode cX9_init 0 = .ok (.aload_n 0, 1) := by decide +kernel
theorem dX9_init_1 : decode cX9_init 1 = .ok (.invokespecial 3, 3) := by decide +kernel
theorem dX9_init_4 : decode cX9_init 4 = .ok (.aload_n 0, 1) := by decide +kernel
theorem dX9_init_5 : decode cX9_init 5 = .ok (.new 9, 3) := by decide +kernel
theorem dX9_init_8 : decode cX9_init 8 = .ok (.dup, 1) := by decide +kernel
theorem dX9_init_9 : decode cX9_init 9 = .ok (.bipush 116, 2) := by decide +kernel
theorem dX9_init_11 : decode cX9_init 11 = .ok (.invokespecial 11, 3) := by decide +kernel
theorem dX9_init_14 : decode cX9_init 14 = .ok (.putfield 14, 3) := by decide +kernel
theorem dX9_init_17 : decode cX9_init 17 = .ok (.aload_n 0, 1) := by decide +kernel
theorem dX9_init_18 : decode cX9_init 18 = .ok (.new 20, 3) := by decide +kernel
theorem dX9_init_21 : decode cX9_init 21 = .ok (.dup, 1) := by decide +kernel
theorem dX9_init_22 : decode cX9_init 22 = .ok (.invokespecial 22, 3) := by decide +kernel
theorem dX9_init_25 : decode cX9_init 25 = .ok (.putfield 23, 3) := by decide +kernel
theorem dX9_init_28 : decode cX9_init 28 = .ok (.aload_n 0, 1) := by decide +kernel
theorem dX9_init_29 : decode cX9_init 29 = .ok (.bipush 6, 2) := by decide +kernel
theorem dX9_init_31 : decode cX9_init 31 = .ok (.newarray .int, 2) := by decide +kernel
theorem dX9_init_33 : decode cX9_init 33 = .ok (.putfield 27, 3) := by decide +kernel
theorem dX9_init_36 : decode cX9_init 36 = .ok (.aload_n 0, 1) := by decide +kernel
theorem dX9_init_37 : decode cX9_init 37 = .ok (.bipush 6, 2) := by decide +kernel
theorem dX9_init_39 : decode cX9_init 39 = .ok (.newarray .int, 2) := by decide +kernel
theorem dX9_init_41 : decode cX9_init 41 = .ok (.putfield 31, 3) := by decide +kernel
theorem dX9_init_44 : decode cX9_init 44 = .ok (.aload_n 0, 1) := by decide +kernel
theorem dX9_init_45 : decode cX9_init 45 = .ok (.bipush 6, 2) := by decide +kernel
theorem dX9_init_47 : decode cX9_init 47 = .ok (.newarray .boolean, 2) := by decide +kernel
theorem dX9_init_49 : decode cX9_init 49 = .ok (.putfield 34, 3) := by decide +kernel
theorem dX9_init_52 : decode cX9_init 52 = .ok (.return_, 1) := by decide +kernel
theorem dX9_forgetAll_0 : decode cX9_forgetAll 0 = .ok (.aload_n 0, 1) := by decide +kernel
theorem dX9_forgetAll_1 : decode cX9_forgetAll 1 = .ok (.getfield 14, 3) := by decide +kernel
theorem dX9_forgetAll_4 : decode cX9_forgetAll 4 = .ok (.invokevirtual 38, 3) := by decide +kernel
theorem dX9_forgetAll_7 : decode cX9_forgetAll 7 = .ok (.aload_n 0, 1) := by decide +kernel
theorem dX9_forgetAll_8 : decode cX9_forgetAll 8 = .ok (.getfield 23, 3) := by decide +kernel
theorem dX9_forgetAll_11 : decode cX9_forgetAll 11 = .ok (.invokevirtual 41, 3) := by decide +kernel
theorem dX9_forgetAll_14 : decode cX9_forgetAll 14 = .ok (.aload_n 0, 1) := by decide +kernel
theorem dX9_forgetAll_15 : decode cX9_forgetAll 15 = .ok (.iconst 0, 1) := by decide +kernel
theorem dX9_forgetAll_16 : decode cX9_forgetAll 16 = .ok (.putfield 42, 3) := by decide +kernel
theorem dX9_forgetAll_19 : decode cX9_forgetAll 19 = .ok (.return_, 1) := by decide +kernel
theorem dX9_has_0 : decode cX9_has 0 = .ok (.iload_n 1, 1) := by decide +kernel
theorem dX9_has_1 : decode cX9_has 1 = .ok (.ifCond .lt 21, 3) := by decide +kernel
theorem dX9_has_4 : decode cX9_has 4 = .ok (.iload_n 1, 1) := by decide +kernel
theorem dX9_has_5 : decode cX9_has 5 = .ok (.aload_n 0, 1) := by decide +kernel
theorem dX9_has_6 : decode cX9_has 6 = .ok (.getfield 42, 3) := by decide +kernel
theorem dX9_has_9 : decode cX9_has 9 = .ok (.if_icmp .ge 13, 3) := by decide +kernel
theorem dX9_has_12 : decode cX9_has 12 = .ok (.iload_n 1, 1) := by decide +kernel
theorem dX9_has_13 : decode cX9_has 13 = .ok (.bipush 6, 2) := by decide +kernel
theorem dX9_has_15 : decode cX9_has 15 = .ok (.if_icmp .ge 7, 3) := by decide +kernel
theorem dX9_has_18 : decode cX9_has 18 = .ok (.iconst 1, 1) := by decide +kernel
theorem dX9_has_19 : decode cX9_has 19 = .ok (.goto 4, 3) := by decide +kernel
theorem dX9_has_22 : decode cX9_has 22 = .ok (.iconst 0, 1) := by decide +kernel
theorem dX9_has_23 : decode cX9_has 23 = .ok (.ireturn, 1) := by decide +kernel
theorem dX9_addFact_0 : decode cX9_addFact 0 = .ok (.aload_n 0, 1) := by decide +kernel
theorem dX9_addFact_1 : decode cX9_addFact 1 = .ok (.getfield 42, 3) := by decide +kernel
theorem dX9_addFact_4 : decode cX9_addFact 4 = .ok (.ifCond .lt 52, 3) := by decide +kernel
theorem dX9_addFact_7 : decode cX9_addFact 7 = .ok (.aload_n 0, 1) := by decide +kernel
theorem dX9_addFact_8 : decode cX9_addFact 8 = .ok (.getfield 42, 3) := by decide +kernel
theorem dX9_addFact_11 : decode cX9_addFact 11 = .ok (.bipush 6, 2) := by decide +kernel
theorem dX9_addFact_13 : decode cX9_addFact 13 = .ok (.if_icmp .ge 43, 3) := by decide +kernel
theorem dX9_addFact_16 : decode cX9_addFact 16 = .ok (.aload_n 0, 1) := by decide +kernel
theorem dX9_addFact_17 : decode cX9_addFact 17 = .ok (.getfield 34, 3) := by decide +kernel
theorem dX9_addFact_20 : decode cX9_addFact 20 = .ok (.aload_n 0, 1) := by decide +kernel
theorem dX9_addFact_21 : decode cX9_addFact 21 = .ok (.getfield 42, 3) := by decide +kernel
theorem dX9_addFact_24 : decode cX9_addFact 24 = .ok (.iload_n 1, 1) := by decide +kernel
theorem dX9_addFact_25 : decode cX9_addFact 25 = .ok (.bastore, 1) := by decide +kernel
theorem dX9_addFact_26 : decode cX9_addFact 26 = .ok (.aload_n 0, 1) := by decide +kernel
theorem dX9_addFact_27 : decode cX9_addFact 27 = .ok (.getfield 27, 3) := by decide +kernel
theorem dX9_addFact_30 : decode cX9_addFact 30 = .ok (.aload_n 0, 1) := by decide +kernel
theorem dX9_addFact_31 : decode cX9_addFact 31 = .ok (.getfield 42, 3) := by decide +kernel
theorem dX9_addFact_34 : decode cX9_addFact 34 = .ok (.iload_n 2, 1) := by decide +kernel
theorem dX9_addFact_35 : decode cX9_addFact 35 = .ok (.iastore, 1) := by decide +kernel
theorem dX9_addFact_36 : decode cX9_addFact 36 = .ok (.aload_n 0, 1) := by decide +kernel
theorem dX9_addFact_37 : decode cX9_addFact 37 = .ok (.getfield 31, 3) := by decide +kernel
theorem dX9_addFact_40 : decode cX9_addFact 40 = .ok (.aload_n 0, 1) := by decide +kernel
theorem dX9_addFact_41 : decode cX9_addFact 41 = .ok (.getfield 42, 3) := by decide +kernel
theorem dX9_addFact_44 : decode cX9_addFact 44 = .ok (.iload_n 3, 1) := by decide +kernel
theorem dX9_addFact_45 : decode cX9_addFact 45 = .ok (.iastore, 1) := by decide +kernel
theorem dX9_addFact_46 : decode cX9_addFact 46 = .ok (.aload_n 0, 1) := by decide +kernel
theorem dX9_addFact_47 : decode cX9_addFact 47 = .ok (.dup, 1) := by decide +kernel
theorem dX9_addFact_48 : decode cX9_addFact 48 = .ok (.getfield 42, 3) := by decide +kernel
theorem dX9_addFact_51 : decode cX9_addFact 51 = .ok (.iconst 1, 1) := by decide +kernel
theorem dX9_addFact_52 : decode cX9_addFact 52 = .ok (.iadd, 1) := by decide +kernel
theorem dX9_addFact_53 : decode cX9_addFact 53 = .ok (.putfield 42, 3) := by decide +kernel
theorem dX9_addFact_56 : decode cX9_addFact 56 = .ok (.return_, 1) := by decide +kernel
theorem dX9_isAmong_0 : decode cX9_isAmong 0 = .ok (.aload_n 0, 1) := by decide +kernel
theorem dX9_isAmong_1 : decode cX9_isAmong 1 = .ok (.iload_n 2, 1) := by decide +kernel
theorem dX9_isAmong_2 : decode cX9_isAmong 2 = .ok (.invokevirtual 46, 3) := by decide +kernel
theorem dX9_isAmong_5 : decode cX9_isAmong 5 = .ok (.ifCond .eq 26, 3) := by decide +kernel
theorem dX9_isAmong_8 : decode cX9_isAmong 8 = .ok (.iload_n 1, 1) := by decide +kernel
theorem dX9_isAmong_9 : decode cX9_isAmong 9 = .ok (.iload_n 2, 1) := by decide +kernel
theorem dX9_isAmong_10 : decode cX9_isAmong 10 = .ok (.ishr, 1) := by decide +kernel
theorem dX9_isAmong_11 : decode cX9_isAmong 11 = .ok (.iconst 1, 1) := by decide +kernel
theorem dX9_isAmong_12 : decode cX9_isAmong 12 = .ok (.iand, 1) := by decide +kernel
theorem dX9_isAmong_13 : decode cX9_isAmong 13 = .ok (.iconst 1, 1) := by decide +kernel
theorem dX9_isAmong_14 : decode cX9_isAmong 14 = .ok (.if_icmp .ne 17, 3) := by decide +kernel
theorem dX9_isAmong_17 : decode cX9_isAmong 17 = .ok (.aload_n 0, 1) := by decide +kernel
theorem dX9_isAmong_18 : decode cX9_isAmong 18 = .ok (.getfield 34, 3) := by decide +kernel
theorem dX9_isAmong_21 : decode cX9_isAmong 21 = .ok (.iload_n 2, 1) := by decide +kernel
theorem dX9_isAmong_22 : decode cX9_isAmong 22 = .ok (.baload, 1) := by decide +kernel
theorem dX9_isAmong_23 : decode cX9_isAmong 23 = .ok (.iload_n 3, 1) := by decide +kernel
theorem dX9_isAmong_24 : decode cX9_isAmong 24 = .ok (.if_icmp .ne 7, 3) := by decide +kernel
theorem dX9_isAmong_27 : decode cX9_isAmong 27 = .ok (.iconst 1, 1) := by decide +kernel
theorem dX9_isAmong_28 : decode cX9_isAmong 28 = .ok (.goto 4, 3) := by decide +kernel
theorem dX9_isAmong_31 : decode cX9_isAmong 31 = .ok (.iconst 0, 1) := by decide +kernel
theorem dX9_isAmong_32 : decode cX9_isAmong 32 = .ok (.ireturn, 1) := by decide +kernel
theorem dX9_firstOf_0 : decode cX9_firstOf 0 = .ok (.aload_n 0, 1) := by decide +kernel
theorem dX9_firstOf_1 : decode cX9_firstOf 1 = .ok (.iload_n 1, 1) := by decide +kernel
theorem dX9_firstOf_2 : decode cX9_firstOf 2 = .ok (.invokevirtual 46, 3) := by decide +kernel
theorem dX9_firstOf_5 : decode cX9_firstOf 5 = .ok (.ifCond .eq 12, 3) := by decide +kernel
theorem dX9_firstOf_8 : decode cX9_firstOf 8 = .ok (.aload_n 0, 1) := by decide +kernel
theorem dX9_firstOf_9 : decode cX9_firstOf 9 = .ok (.getfield 27, 3) := by decide +kernel
theorem dX9_firstOf_12 : decode cX9_firstOf 12 = .ok (.iload_n 1, 1) := by decide +kernel
theorem dX9_firstOf_13 : decode cX9_firstOf 13 = .ok (.iaload, 1) := by decide +kernel
theorem dX9_firstOf_14 : decode cX9_firstOf 14 = .ok (.goto 4, 3) := by decide +kernel
theorem dX9_firstOf_17 : decode cX9_firstOf 17 = .ok (.iconst 0, 1) := by decide +kernel
theorem dX9_firstOf_18 : decode cX9_firstOf 18 = .ok (.ireturn, 1) := by decide +kernel
theorem dX9_secondOf_0 : decode cX9_secondOf 0 = .ok (.aload_n 0, 1) := by decide +kernel
theorem dX9_secondOf_1 : decode cX9_secondOf 1 = .ok (.iload_n 1, 1) := by decide +kernel
theorem dX9_secondOf_2 : decode cX9_secondOf 2 = .ok (.invokevirtual 46, 3) := by decide +kernel
theorem dX9_secondOf_5 : decode cX9_secondOf 5 = .ok (.ifCond .eq 12, 3) := by decide +kernel
theorem dX9_secondOf_8 : decode cX9_secondOf 8 = .ok (.aload_n 0, 1) := by decide +kernel
theorem dX9_secondOf_9 : decode cX9_secondOf 9 = .ok (.getfield 31, 3) := by decide +kernel
theorem dX9_secondOf_12 : decode cX9_secondOf 12 = .ok (.iload_n 1, 1) := by decide +kernel
theorem dX9_secondOf_13 : decode cX9_secondOf 13 = .ok (.iaload, 1) := by decide +kernel
theorem dX9_secondOf_14 : decode cX9_secondOf 14 = .ok (.goto 4, 3) := by decide +kernel
theorem dX9_secondOf_17 : decode cX9_secondOf 17 = .ok (.iconst 0, 1) := by decide +kernel
theorem dX9_secondOf_18 : decode cX9_secondOf 18 = .ok (.ireturn, 1) := by decide +kernel
theorem dX10_init_0 : decode cX10_init 0 = .ok (.aload_n 0, 1) := by decide +kernel
theorem dX10_init_1 : decode cX10_init 1 = .ok (.invokespecial 3, 3) := by decide +kernel
theorem dX10_init_4 : decode cX10_init 4 = .ok (.aload_n 0, 1) := by decide +kernel
theorem dX10_init_5 : decode cX10_init 5 = .ok (.new 9, 3) := by decide +kernel
theorem dX10_init_8 : decode cX10_init 8 = .ok (.dup, 1) := by decide +kernel
theorem dX10_init_9 : decode cX10_init 9 = .ok (.invokespecial 11, 3) := by decide +kernel
theorem dX10_init_12 : decode cX10_init 12 = .ok (.putfield 12, 3) := by decide +kernel
theorem dX10_init_15 : decode cX10_init 15 = .ok (.aload_n 0, 1) := by decide +kernel
theorem dX10_init_16 : decode cX10_init 16 = .ok (.new 16, 3) := by decide +kernel
theorem dX10_init_19 : decode cX10_init 19 = .ok (.dup, 1) := by decide +kernel
theorem dX10_init_20 : decode cX10_init 20 = .ok (.invokespecial 18, 3) := by decide +kernel
theorem dX10_init_23 : decode cX10_init 23 = .ok (.putfield 19, 3) := by decide +kernel
theorem dX10_init_26 : decode cX10_init 26 = .ok (.aload_n 0, 1) := by decide +kernel
theorem dX10_init_27 : decode cX10_init 27 = .ok (.new 23, 3) := by decide +kernel
theorem dX10_init_30 : decode cX10_init 30 = .ok (.dup, 1) := by decide +kernel
theorem dX10_init_31 : decode cX10_init 31 = .ok (.invokespecial 25, 3) := by decide +kernel
theorem dX10_init_34 : decode cX10_init 34 = .ok (.putfield 26, 3) := by decide +kernel
theorem dX10_init_37 : decode cX10_init 37 = .ok (.aload_n 0, 1) := by decide +kernel
theorem dX10_init_38 : decode cX10_init 38 = .ok (.iconst 2, 1) := by decide +kernel
theorem dX10_init_39 : decode cX10_init 39 = .ok (.anewarray 16, 3) := by decide +kernel
theorem dX10_init_42 : decode cX10_init 42 = .ok (.putfield 30, 3) := by decide +kernel
theorem dX10_init_45 : decode cX10_init 45 = .ok (.aload_n 0, 1) := by decide +kernel
theorem dX10_init_46 : decode cX10_init 46 = .ok (.iconst 2, 1) := by decide +kernel
theorem dX10_init_47 : decode cX10_init 47 = .ok (.newarray .boolean, 2) := by decide +kernel
theorem dX10_init_49 : decode cX10_init 49 = .ok (.putfield 34, 3) := by decide +kernel
theorem dX10_init_52 : decode cX10_init 52 = .ok (.aload_n 0, 1) := by decide +kernel
theorem dX10_init_53 : decode cX10_init 53 = .ok (.new 38, 3) := by decide +kernel
theorem dX10_init_56 : decode cX10_init 56 = .ok (.dup, 1) := by decide +kernel
theorem dX10_init_57 : decode cX10_init 57 = .ok (.invokespecial 40, 3) := by decide +kernel
theorem dX10_init_60 : decode cX10_init 60 = .ok (.putfield 41, 3) := by decide +kernel
theorem dX10_init_63 : decode cX10_init 63 = .ok (.aload_n 0, 1) := by decide +kernel
theorem dX10_init_64 : decode cX10_init 64 = .ok (.new 45, 3) := by decide +kernel
theorem dX10_init_67 : decode cX10_init 67 = .ok (.dup, 1) := by decide +kernel
theorem dX10_init_68 : decode cX10_init 68 = .ok (.invokespecial 47, 3) := by decide +kernel
theorem dX10_init_71 : decode cX10_init 71 = .ok (.putfield 48, 3) := by decide +kernel
theorem dX10_init_74 : decode cX10_init 74 = .ok (.aload_n 0, 1) := by decide +kernel
theorem dX10_init_75 : decode cX10_init 75 = .ok (.new 52, 3) := by decide +kernel
theorem dX10_init_78 : decode cX10_init 78 = .ok (.dup, 1) := by decide +kernel
theorem dX10_init_79 : decode cX10_init 79 = .ok (.invokespecial 54, 3) := by decide +kernel
theorem dX10_init_82 : decode cX10_init 82 = .ok (.putfield 55, 3) := by decide +kernel
theorem dX10_init_85 : decode cX10_init 85 = .ok (.aload_n 0, 1) := by decide +kernel
theorem dX10_init_86 : decode cX10_init 86 = .ok (.new 59, 3) := by decide +kernel
theorem dX10_init_89 : decode cX10_init 89 = .ok (.dup, 1) := by decide +kernel
theorem dX10_init_90 : decode cX10_init 90 = .ok (.invokespecial 61, 3) := by decide +kernel
theorem dX10_init_93 : decode cX10_init 93 = .ok (.putfield 62, 3) := by decide +kernel
theorem dX10_init_96 : decode cX10_init 96 = .ok (.aload_n 0, 1) := by decide +kernel
theorem dX10_init_97 : decode cX10_init 97 = .ok (.new 66, 3) := by decide +kernel
theorem dX10_init_100 : decode cX10_init 100 = .ok (.dup, 1) := by decide +kernel
theorem dX10_init_101 : decode cX10_init 101 = .ok (.invokespecial 68, 3) := by decide +kernel
theorem dX10_init_104 : decode cX10_init 104 = .ok (.putfield 69, 3) := by decide +kernel
theorem dX10_init_107 : decode cX10_init 107 = .ok (.aload_n 0, 1) := by decide +kernel
theorem dX10_init_108 : decode cX10_init 108 = .ok (.new 66, 3) := by decide +kernel
theorem dX10_init_111 : decode cX10_init 111 = .ok (.dup, 1) := by decide +kernel
theorem dX10_init_112 : decode cX10_init 112 = .ok (.invokespecial 68, 3) := by decide +kernel
theorem dX10_init_115 : decode cX10_init 115 = .ok (.putfield 73, 3) := by decide +kernel
theorem dX10_init_118 : decode cX10_init 118 = .ok (.iconst 0, 1) := by decide +kernel
theorem dX10_init_119 : decode cX10_init 119 = .ok (.istore_n 1, 1) := by decide +kernel
theorem dX10_init_120 : decode cX10_init 120 = .ok (.iload_n 1, 1) := by decide +kernel
theorem dX10_init_121 : decode cX10_init 121 = .ok (.iconst 2, 1) := by decide +kernel
theorem dX10_init_122 : decode cX10_init 122 = .ok (.if_icmp .ge 22, 3) := by decide +kernel
theorem dX10_init_125 : decode cX10_init 125 = .ok (.aload_n 0, 1) := by decide +kernel
theorem dX10_init_126 : decode cX10_init 126 = .ok (.getfield 30, 3) := by decide +kernel
theorem dX10_init_129 : decode cX10_init 129 = .ok (.iload_n 1, 1) := by decide +kernel
theorem dX10_init_130 : decode cX10_init 130 = .ok (.new 16, 3) := by decide +kernel
theorem dX10_init_133 : decode cX10_init 133 = .ok (.dup, 1) := by decide +kernel
theorem dX10_init_134 : decode cX10_init 134 = .ok (.invokespecial 18, 3) := by decide +kernel
theorem dX10_init_137 : decode cX10_init 137 = .ok (.aastore, 1) := by decide +kernel
theorem dX10_init_138 : decode cX10_init 138 = .ok (.iinc 1 1, 3) := by decide +kernel
theorem dX10_init_141 : decode cX10_init 141 = .ok (.goto (-21), 3) := by decide +kernel
theorem dX10_init_144 : decode cX10_init 144 = .ok (.aload_n 0, 1) := by decide +kernel
theorem dX10_init_145 : decode cX10_init 145 = .ok (.invokevirtual 76, 3) := by decide +kernel
theorem dX10_init_148 : decode cX10_init 148 = .ok (.return_, 1) := by decide +kernel
theorem dX10_startAsTold_0 : decode cX10_startAsTold 0 = .ok (.aload_n 0, 1) := by decide +kernel
theorem dX10_startAsTold_1 : decode cX10_startAsTold 1 = .ok (.getfield 19, 3) := by decide +kernel
theorem dX10_startAsTold_4 : decode cX10_startAsTold 4 = .ok (.aload_n 0, 1) := by decide +kernel
theorem dX10_startAsTold_5 : decode cX10_startAsTold 5 = .ok (.getfield 69, 3) := by decide +kernel
theorem dX10_startAsTold_8 : decode cX10_startAsTold 8 = .ok (.invokevirtual 79, 3) := by decide +kernel
theorem dX10_startAsTold_11 : decode cX10_startAsTold 11 = .ok (.aload_n 0, 1) := by decide +kernel
theorem dX10_startAsTold_12 : decode cX10_startAsTold 12 = .ok (.getfield 26, 3) := by decide +kernel
theorem dX10_startAsTold_15 : decode cX10_startAsTold 15 = .ok (.invokevirtual 83, 3) := by decide +kernel
theorem dX10_startAsTold_18 : decode cX10_startAsTold 18 = .ok (.aload_n 0, 1) := by decide +kernel
theorem dX10_startAsTold_19 : decode cX10_startAsTold 19 = .ok (.invokevirtual 86, 3) := by decide +kernel
theorem dX10_startAsTold_22 : decode cX10_startAsTold 22 = .ok (.iconst 0, 1) := by decide +kernel
theorem dX10_startAsTold_23 : decode cX10_startAsTold 23 = .ok (.istore_n 1, 1) := by decide +kernel
theorem dX10_startAsTold_24 : decode cX10_startAsTold 24 = .ok (.iload_n 1, 1) := by decide +kernel
theorem dX10_startAsTold_25 : decode cX10_startAsTold 25 = .ok (.iconst 2, 1) := by decide +kernel
theorem dX10_startAsTold_26 : decode cX10_startAsTold 26 = .ok (.if_icmp .ge 16, 3) := by decide +kernel
theorem dX10_startAsTold_29 : decode cX10_startAsTold 29 = .ok (.aload_n 0, 1) := by decide +kernel
theorem dX10_startAsTold_30 : decode cX10_startAsTold 30 = .ok (.getfield 34, 3) := by decide +kernel
theorem dX10_startAsTold_33 : decode cX10_startAsTold 33 = .ok (.iload_n 1, 1) := by decide +kernel
theorem dX10_startAsTold_34 : decode cX10_startAsTold 34 = .ok (.iconst 0, 1) := by decide +kernel
theorem dX10_startAsTold_35 : decode cX10_startAsTold 35 = .ok (.bastore, 1) := by decide +kernel
theorem dX10_startAsTold_36 : decode cX10_startAsTold 36 = .ok (.iinc 1 1, 3) := by decide +kernel
theorem dX10_startAsTold_39 : decode cX10_startAsTold 39 = .ok (.goto (-15), 3) := by decide +kernel
theorem dX10_startAsTold_42 : decode cX10_startAsTold 42 = .ok (.return_, 1) := by decide +kernel
theorem dX10_forgetSeen_0 : decode cX10_forgetSeen 0 = .ok (.aload_n 0, 1) := by decide +kernel
theorem dX10_forgetSeen_1 : decode cX10_forgetSeen 1 = .ok (.iconst 0, 1) := by decide +kernel
theorem dX10_forgetSeen_2 : decode cX10_forgetSeen 2 = .ok (.putfield 89, 3) := by decide +kernel
theorem dX10_forgetSeen_5 : decode cX10_forgetSeen 5 = .ok (.aload_n 0, 1) := by decide +kernel
theorem dX10_forgetSeen_6 : decode cX10_forgetSeen 6 = .ok (.sipush 255, 3) := by decide +kernel
theorem dX10_forgetSeen_9 : decode cX10_forgetSeen 9 = .ok (.putfield 93, 3) := by decide +kernel
theorem dX10_forgetSeen_12 : decode cX10_forgetSeen 12 = .ok (.return_, 1) := by decide +kernel
theorem dX10_type_0 : decode cX10_type 0 = .ok (.iload_n 1, 1) := by decide +kernel
theorem dX10_type_1 : decode cX10_type 1 = .ok (.ifCond .lt 10, 3) := by decide +kernel
theorem dX10_type_4 : decode cX10_type 4 = .ok (.iload_n 1, 1) := by decide +kernel
theorem dX10_type_5 : decode cX10_type 5 = .ok (.sipush 255, 3) := by decide +kernel
theorem dX10_type_8 : decode cX10_type 8 = .ok (.if_icmp .le 5, 3) := by decide +kernel
theorem dX10_type_11 : decode cX10_type 11 = .ok (.iconst (-1), 1) := by decide +kernel
theorem dX10_type_12 : decode cX10_type 12 = .ok (.ireturn, 1) := by decide +kernel
theorem dX10_type_13 : decode cX10_type 13 = .ok (.aload_n 0, 1) := by decide +kernel
theorem dX10_type_14 : decode cX10_type 14 = .ok (.getfield 12, 3) := by decide +kernel
theorem dX10_type_17 : decode cX10_type 17 = .ok (.invokevirtual 96, 3) := by decide +kernel
theorem dX10_type_20 : decode cX10_type 20 = .ok (.ifCond .eq 6, 3) := by decide +kernel
theorem dX10_type_23 : decode cX10_type 23 = .ok (.bipush (-3), 2) := by decide +kernel
theorem dX10_type_25 : decode cX10_type 25 = .ok (.ireturn, 1) := by decide +kernel
theorem dX10_type_26 : decode cX10_type 26 = .ok (.aload_n 0, 1) := by decide +kernel
theorem dX10_type_27 : decode cX10_type 27 = .ok (.getfield 12, 3) := by decide +kernel
theorem dX10_type_30 : decode cX10_type 30 = .ok (.iload_n 1, 1) := by decide +kernel
theorem dX10_type_31 : decode cX10_type 31 = .ok (.invokevirtual 100, 3) := by decide +kernel
theorem dX10_type_34 : decode cX10_type 34 = .ok (.aload_n 0, 1) := by decide +kernel
theorem dX10_type_35 : decode cX10_type 35 = .ok (.getfield 12, 3) := by decide +kernel
theorem dX10_type_38 : decode cX10_type 38 = .ok (.getfield 104, 3) := by decide +kernel
theorem dX10_type_41 : decode cX10_type 41 = .ok (.ireturn, 1) := by decide +kernel
theorem dX10_clear_0 : decode cX10_clear 0 = .ok (.aload_n 0, 1) := by decide +kernel
theorem dX10_clear_1 : decode cX10_clear 1 = .ok (.getfield 12, 3) := by decide +kernel
theorem dX10_clear_4 : decode cX10_clear 4 = .ok (.getfield 104, 3) := by decide +kernel
theorem dX10_clear_7 : decode cX10_clear 7 = .ok (.istore_n 1, 1) := by decide +kernel
theorem dX10_clear_8 : decode cX10_clear 8 = .ok (.aload_n 0, 1) := by decide +kernel
theorem dX10_clear_9 : decode cX10_clear 9 = .ok (.getfield 12, 3) := by decide +kernel
theorem dX10_clear_12 : decode cX10_clear 12 = .ok (.iconst 0, 1) := by decide +kernel
theorem dX10_clear_13 : decode cX10_clear 13 = .ok (.putfield 104, 3) := by decide +kernel
theorem dX10_clear_16 : decode cX10_clear 16 = .ok (.iload_n 1, 1) := by decide +kernel
theorem dX10_clear_17 : decode cX10_clear 17 = .ok (.ireturn, 1) := by decide +kernel
theorem dX10_machine_0 : decode cX10_machine 0 = .ok (.aload_n 0, 1) := by decide +kernel
theorem dX10_machine_1 : decode cX10_machine 1 = .ok (.getfield 12, 3) := by decide +kernel
theorem dX10_machine_4 : decode cX10_machine 4 = .ok (.aload_n 0, 1) := by decide +kernel
theorem dX10_machine_5 : decode cX10_machine 5 = .ok (.getfield 73, 3) := by decide +kernel
theorem dX10_machine_8 : decode cX10_machine 8 = .ok (.invokevirtual 107, 3) := by decide +kernel
theorem dX10_machine_11 : decode cX10_machine 11 = .ok (.istore_n 1, 1) := by decide +kernel
theorem dX10_machine_12 : decode cX10_machine 12 = .ok (.iload_n 1, 1) := by decide +kernel
theorem dX10_machine_13 : decode cX10_machine 13 = .ok (.ifCond .ge 5, 3) := by decide +kernel
theorem dX10_machine_16 : decode cX10_machine 16 = .ok (.iload_n 1, 1) := by decide +kernel
theorem dX10_machine_17 : decode cX10_machine 17 = .ok (.ireturn, 1) := by decide +kernel
theorem dX10_machine_18 : decode cX10_machine 18 = .ok (.aload_n 0, 1) := by decide +kernel
theorem dX10_machine_19 : decode cX10_machine 19 = .ok (.getfield 69, 3) := by decide +kernel
theorem dX10_machine_22 : decode cX10_machine 22 = .ok (.astore_n 2, 1) := by decide +kernel
theorem dX10_machine_23 : decode cX10_machine 23 = .ok (.aload_n 0, 1) := by decide +kernel
theorem dX10_machine_24 : decode cX10_machine 24 = .ok (.aload_n 0, 1) := by decide +kernel
theorem dX10_machine_25 : decode cX10_machine 25 = .ok (.getfield 73, 3) := by decide +kernel
theorem dX10_machine_28 : decode cX10_machine 28 = .ok (.putfield 69, 3) := by decide +kernel
theorem dX10_machine_31 : decode cX10_machine 31 = .ok (.aload_n 0, 1) := by decide +kernel
theorem dX10_machine_32 : decode cX10_machine 32 = .ok (.aload_n 2, 1) := by decide +kernel
theorem dX10_machine_33 : decode cX10_machine 33 = .ok (.putfield 73, 3) := by decide +kernel
theorem dX10_machine_36 : decode cX10_machine 36 = .ok (.aload_n 0, 1) := by decide +kernel
theorem dX10_machine_37 : decode cX10_machine 37 = .ok (.getfield 12, 3) := by decide +kernel
theorem dX10_machine_40 : decode cX10_machine 40 = .ok (.iconst 0, 1) := by decide +kernel
theorem dX10_machine_41 : decode cX10_machine 41 = .ok (.putfield 104, 3) := by decide +kernel
theorem dX10_machine_44 : decode cX10_machine 44 = .ok (.aload_n 0, 1) := by decide +kernel
theorem dX10_machine_45 : decode cX10_machine 45 = .ok (.invokevirtual 76, 3) := by decide +kernel
theorem dX10_machine_48 : decode cX10_machine 48 = .ok (.iload_n 1, 1) := by decide +kernel
theorem dX10_machine_49 : decode cX10_machine 49 = .ok (.ireturn, 1) := by decide +kernel
theorem dX10_instruction_0 : decode cX10_instruction 0 = .ok (.aload_n 0, 1) := by decide +kernel
theorem dX10_instruction_1 : decode cX10_instruction 1 = .ok (.getfield 19, 3) := by decide +kernel
theorem dX10_instruction_4 : decode cX10_instruction 4 = .ok (.getfield 111, 3) := by decide +kernel
theorem dX10_instruction_7 : decode cX10_instruction 7 = .ok (.iload_n 1, 1) := by decide +kernel
theorem dX10_instruction_8 : decode cX10_instruction 8 = .ok (.invokevirtual 115, 3) := by decide +kernel
theorem dX10_instruction_11 : decode cX10_instruction 11 = .ok (.ifCond .ne 5, 3) := by decide +kernel
theorem dX10_instruction_14 : decode cX10_instruction 14 = .ok (.iconst (-1), 1) := by decide +kernel
theorem dX10_instruction_15 : decode cX10_instruction 15 = .ok (.ireturn, 1) := by decide +kernel
theorem dX10_instruction_16 : decode cX10_instruction 16 = .ok (.aload_n 0, 1) := by decide +kernel
theorem dX10_instruction_17 : decode cX10_instruction 17 = .ok (.getfield 19, 3) := by decide +kernel
theorem dX10_instruction_20 : decode cX10_instruction 20 = .ok (.getfield 111, 3) := by decide +kernel
theorem dX10_instruction_23 : decode cX10_instruction 23 = .ok (.iload_n 1, 1) := by decide +kernel
theorem dX10_instruction_24 : decode cX10_instruction 24 = .ok (.invokevirtual 121, 3) := by decide +kernel
theorem dX10_instruction_27 : decode cX10_instruction 27 = .ok (.istore_n 3, 1) := by decide +kernel
theorem dX10_instruction_28 : decode cX10_instruction 28 = .ok (.iload_n 2, 1) := by decide +kernel
theorem dX10_instruction_29 : decode cX10_instruction 29 = .ok (.tableswitch 51 0 3 #[31, 36, 41, 46], 31) := by decide +kernel
theorem dX10_instruction_60 : decode cX10_instruction 60 = .ok (.iload_n 3, 1) := by decide +kernel
theorem dX10_instruction_61 : decode cX10_instruction 61 = .ok (.invokestatic 125, 3) := by decide +kernel
theorem dX10_instruction_64 : decode cX10_instruction 64 = .ok (.ireturn, 1) := by decide +kernel
theorem dX10_instruction_65 : decode cX10_instruction 65 = .ok (.iload_n 3, 1) := by decide +kernel
theorem dX10_instruction_66 : decode cX10_instruction 66 = .ok (.invokestatic 128, 3) := by decide +kernel
theorem dX10_instruction_69 : decode cX10_instruction 69 = .ok (.ireturn, 1) := by decide +kernel
theorem dX10_instruction_70 : decode cX10_instruction 70 = .ok (.iload_n 3, 1) := by decide +kernel
theorem dX10_instruction_71 : decode cX10_instruction 71 = .ok (.invokestatic 131, 3) := by decide +kernel
theorem dX10_instruction_74 : decode cX10_instruction 74 = .ok (.ireturn, 1) := by decide +kernel
theorem dX10_instruction_75 : decode cX10_instruction 75 = .ok (.iload_n 3, 1) := by decide +kernel
theorem dX10_instruction_76 : decode cX10_instruction 76 = .ok (.invokestatic 134, 3) := by decide +kernel
theorem dX10_instruction_79 : decode cX10_instruction 79 = .ok (.ireturn, 1) := by decide +kernel
theorem dX10_instruction_80 : decode cX10_instruction 80 = .ok (.iconst (-1), 1) := by decide +kernel
theorem dX10_instruction_81 : decode cX10_instruction 81 = .ok (.ireturn, 1) := by decide +kernel
theorem dX10_puts_0 : decode cX10_puts 0 = .ok (.iload_n 1, 1) := by decide +kernel
theorem dX10_puts_1 : decode cX10_puts 1 = .ok (.ifCond .lt 29, 3) := by decide +kernel
theorem dX10_puts_4 : decode cX10_puts 4 = .ok (.iload_n 1, 1) := by decide +kernel
theorem dX10_puts_5 : decode cX10_puts 5 = .ok (.aload_n 0, 1) := by decide +kernel
theorem dX10_puts_6 : decode cX10_puts 6 = .ok (.getfield 19, 3) := by decide +kernel
theorem dX10_puts_9 : decode cX10_puts 9 = .ok (.getfield 111, 3) := by decide +kernel
theorem dX10_puts_12 : decode cX10_puts 12 = .ok (.getfield 137, 3) := by decide +kernel
theorem dX10_puts_15 : decode cX10_puts 15 = .ok (.if_icmp .gt 15, 3) := by decide +kernel
theorem dX10_puts_18 : decode cX10_puts 18 = .ok (.iload_n 2, 1) := by decide +kernel
theorem dX10_puts_19 : decode cX10_puts 19 = .ok (.iload_n 3, 1) := by decide +kernel
theorem dX10_puts_20 : decode cX10_puts 20 = .ok (.iload 4, 2) := by decide +kernel
theorem dX10_puts_22 : decode cX10_puts 22 = .ok (.iload 5, 2) := by decide +kernel
theorem dX10_puts_24 : decode cX10_puts 24 = .ok (.invokestatic 138, 3) := by decide +kernel
theorem dX10_puts_27 : decode cX10_puts 27 = .ok (.ifCond .ne 5, 3) := by decide +kernel
theorem dX10_puts_30 : decode cX10_puts 30 = .ok (.iconst (-1), 1) := by decide +kernel
theorem dX10_puts_31 : decode cX10_puts 31 = .ok (.ireturn, 1) := by decide +kernel
theorem dX10_puts_32 : decode cX10_puts 32 = .ok (.iload_n 2, 1) := by decide +kernel
theorem dX10_puts_33 : decode cX10_puts 33 = .ok (.iload_n 3, 1) := by decide +kernel
theorem dX10_puts_34 : decode cX10_puts 34 = .ok (.iload 4, 2) := by decide +kernel
theorem dX10_puts_36 : decode cX10_puts 36 = .ok (.iload 5, 2) := by decide +kernel
theorem dX10_puts_38 : decode cX10_puts 38 = .ok (.invokestatic 142, 3) := by decide +kernel
theorem dX10_puts_41 : decode cX10_puts 41 = .ok (.istore 6, 2) := by decide +kernel
theorem dX10_puts_43 : decode cX10_puts 43 = .ok (.aload_n 0, 1) := by decide +kernel
theorem dX10_puts_44 : decode cX10_puts 44 = .ok (.getfield 19, 3) := by decide +kernel
theorem dX10_puts_47 : decode cX10_puts 47 = .ok (.getfield 111, 3) := by decide +kernel
theorem dX10_puts_50 : decode cX10_puts 50 = .ok (.iload_n 1, 1) := by decide +kernel
theorem dX10_puts_51 : decode cX10_puts 51 = .ok (.invokevirtual 121, 3) := by decide +kernel
theorem dX10_puts_54 : decode cX10_puts 54 = .ok (.iload 6, 2) := by decide +kernel
theorem dX10_puts_56 : decode cX10_puts 56 = .ok (.if_icmp .ne 6, 3) := by decide +kernel
theorem dX10_puts_59 : decode cX10_puts 59 = .ok (.bipush (-2), 2) := by decide +kernel
theorem dX10_puts_61 : decode cX10_puts 61 = .ok (.ireturn, 1) := by decide +kernel
theorem dX10_puts_62 : decode cX10_puts 62 = .ok (.iload_n 1, 1) := by decide +kernel
theorem dX10_puts_63 : decode cX10_puts 63 = .ok (.bipush 6, 2) := by decide +kernel
theorem dX10_puts_65 : decode cX10_puts 65 = .ok (.if_icmp .lt 6, 3) := by decide +kernel
theorem dX10_puts_68 : decode cX10_puts 68 = .ok (.bipush (-3), 2) := by decide +kernel
theorem dX10_puts_70 : decode cX10_puts 70 = .ok (.ireturn, 1) := by decide +kernel
theorem dX10_puts_71 : decode cX10_puts 71 = .ok (.aload_n 0, 1) := by decide +kernel
theorem dX10_puts_72 : decode cX10_puts 72 = .ok (.getfield 26, 3) := by decide +kernel
theorem dX10_puts_75 : decode cX10_puts 75 = .ok (.aload_n 0, 1) := by decide +kernel
theorem dX10_puts_76 : decode cX10_puts 76 = .ok (.getfield 19, 3) := by decide +kernel
theorem dX10_puts_79 : decode cX10_puts 79 = .ok (.invokevirtual 146, 3) := by decide +kernel
theorem dX10_puts_82 : decode cX10_puts 82 = .ok (.aload_n 0, 1) := by decide +kernel
theorem dX10_puts_83 : decode cX10_puts 83 = .ok (.getfield 19, 3) := by decide +kernel
theorem dX10_puts_86 : decode cX10_puts 86 = .ok (.getfield 111, 3) := by decide +kernel
theorem dX10_puts_89 : decode cX10_puts 89 = .ok (.iload_n 1, 1) := by decide +kernel
theorem dX10_puts_90 : decode cX10_puts 90 = .ok (.iload 6, 2) := by decide +kernel
theorem dX10_puts_92 : decode cX10_puts 92 = .ok (.invokevirtual 150, 3) := by decide +kernel
theorem dX10_puts_95 : decode cX10_puts 95 = .ok (.aload_n 0, 1) := by decide +kernel
theorem dX10_puts_96 : decode cX10_puts 96 = .ok (.getfield 19, 3) := by decide +kernel
theorem dX10_puts_99 : decode cX10_puts 99 = .ok (.getfield 111, 3) := by decide +kernel
theorem dX10_puts_102 : decode cX10_puts 102 = .ok (.getfield 137, 3) := by decide +kernel
theorem dX10_puts_105 : decode cX10_puts 105 = .ok (.ireturn, 1) := by decide +kernel
theorem dX10_isInstruction_0 : decode cX10_isInstruction 0 = .ok (.iload_n 0, 1) := by decide +kernel
theorem dX10_isInstruction_1 : decode cX10_isInstruction 1 = .ok (.ifCond .lt 29, 3) := by decide +kernel
theorem dX10_isInstruction_4 : decode cX10_isInstruction 4 = .ok (.iload_n 0, 1) := by decide +kernel
theorem dX10_isInstruction_5 : decode cX10_isInstruction 5 = .ok (.iconst 2, 1) := by decide +kernel
theorem dX10_isInstruction_6 : decode cX10_isInstruction 6 = .ok (.if_icmp .gt 24, 3) := by decide +kernel
theorem dX10_isInstruction_9 : decode cX10_isInstruction 9 = .ok (.iload_n 1, 1) := by decide +kernel
theorem dX10_isInstruction_10 : decode cX10_isInstruction 10 = .ok (.invokestatic 154, 3) := by decide +kernel
theorem dX10_isInstruction_13 : decode cX10_isInstruction 13 = .ok (.ifCond .eq 17, 3) := by decide +kernel
theorem dX10_isInstruction_16 : decode cX10_isInstruction 16 = .ok (.iload_n 2, 1) := by decide +kernel
theorem dX10_isInstruction_17 : decode cX10_isInstruction 17 = .ok (.invokestatic 154, 3) := by decide +kernel
theorem dX10_isInstruction_20 : decode cX10_isInstruction 20 = .ok (.ifCond .eq 10, 3) := by decide +kernel
theorem dX10_isInstruction_23 : decode cX10_isInstruction 23 = .ok (.iload_n 3, 1) := by decide +kernel
theorem dX10_isInstruction_24 : decode cX10_isInstruction 24 = .ok (.invokestatic 154, 3) := by decide +kernel
theorem dX10_isInstruction_27 : decode cX10_isInstruction 27 = .ok (.ifCond .ne 5, 3) := by decide +kernel
theorem dX10_isInstruction_30 : decode cX10_isInstruction 30 = .ok (.iconst 0, 1) := by decide +kernel
theorem dX10_isInstruction_31 : decode cX10_isInstruction 31 = .ok (.ireturn, 1) := by decide +kernel
theorem dX10_isInstruction_32 : decode cX10_isInstruction 32 = .ok (.iload_n 0, 1) := by decide +kernel
theorem dX10_isInstruction_33 : decode cX10_isInstruction 33 = .ok (.iconst 2, 1) := by decide +kernel
theorem dX10_isInstruction_34 : decode cX10_isInstruction 34 = .ok (.if_icmp .eq 20, 3) := by decide +kernel
theorem dX10_isInstruction_37 : decode cX10_isInstruction 37 = .ok (.iload_n 3, 1) := by decide +kernel
theorem dX10_isInstruction_38 : decode cX10_isInstruction 38 = .ok (.ifCond .ne 20, 3) := by decide +kernel
theorem dX10_isInstruction_41 : decode cX10_isInstruction 41 = .ok (.iload_n 0, 1) := by decide +kernel
theorem dX10_isInstruction_42 : decode cX10_isInstruction 42 = .ok (.iconst 1, 1) := by decide +kernel
theorem dX10_isInstruction_43 : decode cX10_isInstruction 43 = .ok (.if_icmp .eq 11, 3) := by decide +kernel
theorem dX10_isInstruction_46 : decode cX10_isInstruction 46 = .ok (.iload_n 1, 1) := by decide +kernel
theorem dX10_isInstruction_47 : decode cX10_isInstruction 47 = .ok (.ifCond .ne 11, 3) := by decide +kernel
theorem dX10_isInstruction_50 : decode cX10_isInstruction 50 = .ok (.iload_n 2, 1) := by decide +kernel
theorem dX10_isInstruction_51 : decode cX10_isInstruction 51 = .ok (.ifCond .ne 7, 3) := by decide +kernel
theorem dX10_isInstruction_54 : decode cX10_isInstruction 54 = .ok (.iconst 1, 1) := by decide +kernel
theorem dX10_isInstruction_55 : decode cX10_isInstruction 55 = .ok (.goto 4, 3) := by decide +kernel
theorem dX10_isInstruction_58 : decode cX10_isInstruction 58 = .ok (.iconst 0, 1) := by decide +kernel
theorem dX10_isInstruction_59 : decode cX10_isInstruction 59 = .ok (.ireturn, 1) := by decide +kernel
theorem dX10_isRegister_0 : decode cX10_isRegister 0 = .ok (.iload_n 0, 1) := by decide +kernel
theorem dX10_isRegister_1 : decode cX10_isRegister 1 = .ok (.ifCond .lt 12, 3) := by decide +kernel
theorem dX10_isRegister_4 : decode cX10_isRegister 4 = .ok (.iload_n 0, 1) := by decide +kernel
theorem dX10_isRegister_5 : decode cX10_isRegister 5 = .ok (.iconst 4, 1) := by decide +kernel
theorem dX10_isRegister_6 : decode cX10_isRegister 6 = .ok (.if_icmp .ge 7, 3) := by decide +kernel
theorem dX10_isRegister_9 : decode cX10_isRegister 9 = .ok (.iconst 1, 1) := by decide +kernel
theorem dX10_isRegister_10 : decode cX10_isRegister 10 = .ok (.goto 4, 3) := by decide +kernel
theorem dX10_isRegister_13 : decode cX10_isRegister 13 = .ok (.iconst 0, 1) := by decide +kernel
theorem dX10_isRegister_14 : decode cX10_isRegister 14 = .ok (.ireturn, 1) := by decide +kernel
theorem dX10_leaves_0 : decode cX10_leaves 0 = .ok (.aload_n 0, 1) := by decide +kernel
theorem dX10_leaves_1 : decode cX10_leaves 1 = .ok (.getfield 69, 3) := by decide +kernel
theorem dX10_leaves_4 : decode cX10_leaves 4 = .ok (.iload_n 1, 1) := by decide +kernel
theorem dX10_leaves_5 : decode cX10_leaves 5 = .ok (.invokevirtual 157, 3) := by decide +kernel
theorem dX10_leaves_8 : decode cX10_leaves 8 = .ok (.ifCond .ne 5, 3) := by decide +kernel
theorem dX10_leaves_11 : decode cX10_leaves 11 = .ok (.iconst (-1), 1) := by decide +kernel
theorem dX10_leaves_12 : decode cX10_leaves 12 = .ok (.ireturn, 1) := by decide +kernel
theorem dX10_leaves_13 : decode cX10_leaves 13 = .ok (.aload_n 0, 1) := by decide +kernel
theorem dX10_leaves_14 : decode cX10_leaves 14 = .ok (.getfield 26, 3) := by decide +kernel
theorem dX10_leaves_17 : decode cX10_leaves 17 = .ok (.aload_n 0, 1) := by decide +kernel
theorem dX10_leaves_18 : decode cX10_leaves 18 = .ok (.getfield 19, 3) := by decide +kernel
theorem dX10_leaves_21 : decode cX10_leaves 21 = .ok (.invokevirtual 146, 3) := by decide +kernel
theorem dX10_leaves_24 : decode cX10_leaves 24 = .ok (.aload_n 0, 1) := by decide +kernel
theorem dX10_leaves_25 : decode cX10_leaves 25 = .ok (.getfield 19, 3) := by decide +kernel
theorem dX10_leaves_28 : decode cX10_leaves 28 = .ok (.dup, 1) := by decide +kernel
theorem dX10_leaves_29 : decode cX10_leaves 29 = .ok (.getfield 158, 3) := by decide +kernel
theorem dX10_leaves_32 : decode cX10_leaves 32 = .ok (.iconst 1, 1) := by decide +kernel
theorem dX10_leaves_33 : decode cX10_leaves 33 = .ok (.iload_n 1, 1) := by decide +kernel
theorem dX10_leaves_34 : decode cX10_leaves 34 = .ok (.ishl, 1) := by decide +kernel
theorem dX10_leaves_35 : decode cX10_leaves 35 = .ok (.ixor, 1) := by decide +kernel
theorem dX10_leaves_36 : decode cX10_leaves 36 = .ok (.putfield 158, 3) := by decide +kernel
theorem dX10_leaves_39 : decode cX10_leaves 39 = .ok (.aload_n 0, 1) := by decide +kernel
theorem dX10_leaves_40 : decode cX10_leaves 40 = .ok (.getfield 19, 3) := by decide +kernel
theorem dX10_leaves_43 : decode cX10_leaves 43 = .ok (.getfield 158, 3) := by decide +kernel
theorem dX10_leaves_46 : decode cX10_leaves 46 = .ok (.iload_n 1, 1) := by decide +kernel
theorem dX10_leaves_47 : decode cX10_leaves 47 = .ok (.ishr, 1) := by decide +kernel
theorem dX10_leaves_48 : decode cX10_leaves 48 = .ok (.iconst 1, 1) := by decide +kernel
theorem dX10_leaves_49 : decode cX10_leaves 49 = .ok (.iand, 1) := by decide +kernel
theorem dX10_leaves_50 : decode cX10_leaves 50 = .ok (.ireturn, 1) := by decide +kernel
theorem dX10_tells_0 : decode cX10_tells 0 = .ok (.iload_n 1, 1) := by decide +kernel
theorem dX10_tells_1 : decode cX10_tells 1 = .ok (.ifCond .lt 27, 3) := by decide +kernel
theorem dX10_tells_4 : decode cX10_tells 4 = .ok (.iload_n 1, 1) := by decide +kernel
theorem dX10_tells_5 : decode cX10_tells 5 = .ok (.iconst 3, 1) := by decide +kernel
theorem dX10_tells_6 : decode cX10_tells 6 = .ok (.if_icmp .gt 22, 3) := by decide +kernel
theorem dX10_tells_9 : decode cX10_tells 9 = .ok (.iload_n 2, 1) := by decide +kernel
theorem dX10_tells_10 : decode cX10_tells 10 = .ok (.ifCond .lt 18, 3) := by decide +kernel
theorem dX10_tells_13 : decode cX10_tells 13 = .ok (.iload_n 2, 1) := by decide +kernel
theorem dX10_tells_14 : decode cX10_tells 14 = .ok (.bipush 7, 2) := by decide +kernel
theorem dX10_tells_16 : decode cX10_tells 16 = .ok (.if_icmp .gt 12, 3) := by decide +kernel
theorem dX10_tells_19 : decode cX10_tells 19 = .ok (.iload_n 3, 1) := by decide +kernel
theorem dX10_tells_20 : decode cX10_tells 20 = .ok (.ifCond .lt 8, 3) := by decide +kernel
theorem dX10_tells_23 : decode cX10_tells 23 = .ok (.iload_n 3, 1) := by decide +kernel
theorem dX10_tells_24 : decode cX10_tells 24 = .ok (.iconst 1, 1) := by decide +kernel
theorem dX10_tells_25 : decode cX10_tells 25 = .ok (.if_icmp .le 5, 3) := by decide +kernel
theorem dX10_tells_28 : decode cX10_tells 28 = .ok (.iconst (-1), 1) := by decide +kernel
theorem dX10_tells_29 : decode cX10_tells 29 = .ok (.ireturn, 1) := by decide +kernel
theorem dX10_tells_30 : decode cX10_tells 30 = .ok (.aload_n 0, 1) := by decide +kernel
theorem dX10_tells_31 : decode cX10_tells 31 = .ok (.getfield 19, 3) := by decide +kernel
theorem dX10_tells_34 : decode cX10_tells 34 = .ok (.getfield 161, 3) := by decide +kernel
theorem dX10_tells_37 : decode cX10_tells 37 = .ok (.iload_n 1, 1) := by decide +kernel
theorem dX10_tells_38 : decode cX10_tells 38 = .ok (.iload_n 2, 1) := by decide +kernel
theorem dX10_tells_39 : decode cX10_tells 39 = .ok (.iload_n 3, 1) := by decide +kernel
theorem dX10_tells_40 : decode cX10_tells 40 = .ok (.invokevirtual 164, 3) := by decide +kernel
theorem dX10_tells_43 : decode cX10_tells 43 = .ok (.ifCond .eq 6, 3) := by decide +kernel
theorem dX10_tells_46 : decode cX10_tells 46 = .ok (.bipush (-2), 2) := by decide +kernel
theorem dX10_tells_48 : decode cX10_tells 48 = .ok (.ireturn, 1) := by decide +kernel
theorem dX10_tells_49 : decode cX10_tells 49 = .ok (.aload_n 0, 1) := by decide +kernel
theorem dX10_tells_50 : decode cX10_tells 50 = .ok (.getfield 26, 3) := by decide +kernel
theorem dX10_tells_53 : decode cX10_tells 53 = .ok (.aload_n 0, 1) := by decide +kernel
theorem dX10_tells_54 : decode cX10_tells 54 = .ok (.getfield 19, 3) := by decide +kernel
theorem dX10_tells_57 : decode cX10_tells 57 = .ok (.invokevirtual 146, 3) := by decide +kernel
theorem dX10_tells_60 : decode cX10_tells 60 = .ok (.aload_n 0, 1) := by decide +kernel
theorem dX10_tells_61 : decode cX10_tells 61 = .ok (.getfield 19, 3) := by decide +kernel
theorem dX10_tells_64 : decode cX10_tells 64 = .ok (.getfield 161, 3) := by decide +kernel
theorem dX10_tells_67 : decode cX10_tells 67 = .ok (.iload_n 1, 1) := by decide +kernel
theorem dX10_tells_68 : decode cX10_tells 68 = .ok (.iload_n 2, 1) := by decide +kernel
theorem dX10_tells_69 : decode cX10_tells 69 = .ok (.iload_n 3, 1) := by decide +kernel
theorem dX10_tells_70 : decode cX10_tells 70 = .ok (.invokevirtual 168, 3) := by decide +kernel
theorem dX10_tells_73 : decode cX10_tells 73 = .ok (.iconst 1, 1) := by decide +kernel
theorem dX10_tells_74 : decode cX10_tells 74 = .ok (.ireturn, 1) := by decide +kernel
