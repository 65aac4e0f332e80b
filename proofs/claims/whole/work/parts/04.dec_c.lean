theorem dX4_init_0 : decode cX4_init 0 = .ok (.aload_n 0, 1) := by decide +kernel
theorem dX4_init_1 : decode cX4_init 1 = .ok (.invokespecial 1, 3) := by decide +kernel
theorem dX4_init_4 : decode cX4_init 4 = .ok (.aload_n 0, 1) := by decide +kernel
theorem dX4_init_5 : decode cX4_init 5 = .ok (.sipush 300, 3) := by decide +kernel
theorem dX4_init_8 : decode cX4_init 8 = .ok (.newarray .int, 2) := by decide +kernel
theorem dX4_init_10 : decode cX4_init 10 = .ok (.putfield 7, 3) := by decide +kernel
theorem dX4_init_13 : decode cX4_init 13 = .ok (.aload_n 0, 1) := by decide +kernel
theorem dX4_init_14 : decode cX4_init 14 = .ok (.bipush 80, 2) := by decide +kernel
theorem dX4_init_16 : decode cX4_init 16 = .ok (.newarray .int, 2) := by decide +kernel
theorem dX4_init_18 : decode cX4_init 18 = .ok (.putfield 13, 3) := by decide +kernel
theorem dX4_init_21 : decode cX4_init 21 = .ok (.aload_n 0, 1) := by decide +kernel
theorem dX4_init_22 : decode cX4_init 22 = .ok (.bipush 80, 2) := by decide +kernel
theorem dX4_init_24 : decode cX4_init 24 = .ok (.newarray .int, 2) := by decide +kernel
theorem dX4_init_26 : decode cX4_init 26 = .ok (.putfield 16, 3) := by decide +kernel
theorem dX4_init_29 : decode cX4_init 29 = .ok (.aload_n 0, 1) := by decide +kernel
theorem dX4_init_30 : decode cX4_init 30 = .ok (.bipush 16, 2) := by decide +kernel
theorem dX4_init_32 : decode cX4_init 32 = .ok (.newarray .int, 2) := by decide +kernel
theorem dX4_init_34 : decode cX4_init 34 = .ok (.putfield 19, 3) := by decide +kernel
theorem dX4_init_37 : decode cX4_init 37 = .ok (.aload_n 0, 1) := by decide +kernel
theorem dX4_init_38 : decode cX4_init 38 = .ok (.bipush 16, 2) := by decide +kernel
theorem dX4_init_40 : decode cX4_init 40 = .ok (.newarray .int, 2) := by decide +kernel
theorem dX4_init_42 : decode cX4_init 42 = .ok (.putfield 22, 3) := by decide +kernel
theorem dX4_init_45 : decode cX4_init 45 = .ok (.aload_n 0, 1) := by decide +kernel
theorem dX4_init_46 : decode cX4_init 46 = .ok (.bipush 32, 2) := by decide +kernel
theorem dX4_init_48 : decode cX4_init 48 = .ok (.newarray .int, 2) := by decide +kernel
theorem dX4_init_50 : decode cX4_init 50 = .ok (.putfield 25, 3) := by decide +kernel
theorem dX4_init_53 : decode cX4_init 53 = .ok (.aload_n 0, 1) := by decide +kernel
theorem dX4_init_54 : decode cX4_init 54 = .ok (.bipush 10, 2) := by decide +kernel
theorem dX4_init_56 : decode cX4_init 56 = .ok (.newarray .int, 2) := by decide +kernel
theorem dX4_init_58 : decode cX4_init 58 = .ok (.putfield 28, 3) := by decide +kernel
theorem dX4_init_61 : decode cX4_init 61 = .ok (.aload_n 0, 1) := by decide +kernel
theorem dX4_init_62 : decode cX4_init 62 = .ok (.bipush 10, 2) := by decide +kernel
theorem dX4_init_64 : decode cX4_init 64 = .ok (.newarray .int, 2) := by decide +kernel
theorem dX4_init_66 : decode cX4_init 66 = .ok (.putfield 31, 3) := by decide +kernel
theorem dX4_init_69 : decode cX4_init 69 = .ok (.aload_n 0, 1) := by decide +kernel
theorem dX4_init_70 : decode cX4_init 70 = .ok (.bipush 10, 2) := by decide +kernel
theorem dX4_init_72 : decode cX4_init 72 = .ok (.newarray .int, 2) := by decide +kernel
theorem dX4_init_74 : decode cX4_init 74 = .ok (.putfield 34, 3) := by decide +kernel
theorem dX4_init_77 : decode cX4_init 77 = .ok (.aload_n 0, 1) := by decide +kernel
theorem dX4_init_78 : decode cX4_init 78 = .ok (.iconst 4, 1) := by decide +kernel
theorem dX4_init_79 : decode cX4_init 79 = .ok (.newarray .int, 2) := by decide +kernel
theorem dX4_init_81 : decode cX4_init 81 = .ok (.putfield 37, 3) := by decide +kernel
theorem dX4_init_84 : decode cX4_init 84 = .ok (.aload_n 0, 1) := by decide +kernel
theorem dX4_init_85 : decode cX4_init 85 = .ok (.getfield 13, 3) := by decide +kernel
theorem dX4_init_88 : decode cX4_init 88 = .ok (.iconst 0, 1) := by decide +kernel
theorem dX4_init_89 : decode cX4_init 89 = .ok (.iconst 1, 1) := by decide +kernel
theorem dX4_init_90 : decode cX4_init 90 = .ok (.iastore, 1) := by decide +kernel
theorem dX4_init_91 : decode cX4_init 91 = .ok (.aload_n 0, 1) := by decide +kernel
theorem dX4_init_92 : decode cX4_init 92 = .ok (.getfield 13, 3) := by decide +kernel
theorem dX4_init_95 : decode cX4_init 95 = .ok (.iconst 1, 1) := by decide +kernel
theorem dX4_init_96 : decode cX4_init 96 = .ok (.iconst 1, 1) := by decide +kernel
theorem dX4_init_97 : decode cX4_init 97 = .ok (.iastore, 1) := by decide +kernel
theorem dX4_init_98 : decode cX4_init 98 = .ok (.aload_n 0, 1) := by decide +kernel
theorem dX4_init_99 : decode cX4_init 99 = .ok (.getfield 13, 3) := by decide +kernel
theorem dX4_init_102 : decode cX4_init 102 = .ok (.iconst 3, 1) := by decide +kernel
theorem dX4_init_103 : decode cX4_init 103 = .ok (.iconst 3, 1) := by decide +kernel
theorem dX4_init_104 : decode cX4_init 104 = .ok (.iastore, 1) := by decide +kernel
theorem dX4_init_105 : decode cX4_init 105 = .ok (.aload_n 0, 1) := by decide +kernel
theorem dX4_init_106 : decode cX4_init 106 = .ok (.getfield 13, 3) := by decide +kernel
theorem dX4_init_109 : decode cX4_init 109 = .ok (.iconst 4, 1) := by decide +kernel
theorem dX4_init_110 : decode cX4_init 110 = .ok (.iconst 2, 1) := by decide +kernel
theorem dX4_init_111 : decode cX4_init 111 = .ok (.iastore, 1) := by decide +kernel
theorem dX4_init_112 : decode cX4_init 112 = .ok (.aload_n 0, 1) := by decide +kernel
theorem dX4_init_113 : decode cX4_init 113 = .ok (.getfield 13, 3) := by decide +kernel
theorem dX4_init_116 : decode cX4_init 116 = .ok (.iconst 5, 1) := by decide +kernel
theorem dX4_init_117 : decode cX4_init 117 = .ok (.bipush 9, 2) := by decide +kernel
theorem dX4_init_119 : decode cX4_init 119 = .ok (.iastore, 1) := by decide +kernel
theorem dX4_init_120 : decode cX4_init 120 = .ok (.aload_n 0, 1) := by decide +kernel
theorem dX4_init_121 : decode cX4_init 121 = .ok (.getfield 13, 3) := by decide +kernel
theorem dX4_init_124 : decode cX4_init 124 = .ok (.bipush 6, 2) := by decide +kernel
theorem dX4_init_126 : decode cX4_init 126 = .ok (.iconst 1, 1) := by decide +kernel
theorem dX4_init_127 : decode cX4_init 127 = .ok (.iastore, 1) := by decide +kernel
theorem dX4_init_128 : decode cX4_init 128 = .ok (.aload_n 0, 1) := by decide +kernel
theorem dX4_init_129 : decode cX4_init 129 = .ok (.getfield 13, 3) := by decide +kernel
theorem dX4_init_132 : decode cX4_init 132 = .ok (.bipush 7, 2) := by decide +kernel
theorem dX4_init_134 : decode cX4_init 134 = .ok (.iconst 1, 1) := by decide +kernel
theorem dX4_init_135 : decode cX4_init 135 = .ok (.iastore, 1) := by decide +kernel
theorem dX4_init_136 : decode cX4_init 136 = .ok (.aload_n 0, 1) := by decide +kernel
theorem dX4_init_137 : decode cX4_init 137 = .ok (.getfield 13, 3) := by decide +kernel
theorem dX4_init_140 : decode cX4_init 140 = .ok (.bipush 8, 2) := by decide +kernel
theorem dX4_init_142 : decode cX4_init 142 = .ok (.iconst 1, 1) := by decide +kernel
theorem dX4_init_143 : decode cX4_init 143 = .ok (.iastore, 1) := by decide +kernel
theorem dX4_init_144 : decode cX4_init 144 = .ok (.aload_n 0, 1) := by decide +kernel
theorem dX4_init_145 : decode cX4_init 145 = .ok (.getfield 13, 3) := by decide +kernel
theorem dX4_init_148 : decode cX4_init 148 = .ok (.bipush 9, 2) := by decide +kernel
theorem dX4_init_150 : decode cX4_init 150 = .ok (.iconst 2, 1) := by decide +kernel
theorem dX4_init_151 : decode cX4_init 151 = .ok (.iastore, 1) := by decide +kernel
theorem dX4_init_152 : decode cX4_init 152 = .ok (.aload_n 0, 1) := by decide +kernel
theorem dX4_init_153 : decode cX4_init 153 = .ok (.getfield 13, 3) := by decide +kernel
theorem dX4_init_156 : decode cX4_init 156 = .ok (.bipush 28, 2) := by decide +kernel
theorem dX4_init_158 : decode cX4_init 158 = .ok (.iconst 2, 1) := by decide +kernel
theorem dX4_init_159 : decode cX4_init 159 = .ok (.iastore, 1) := by decide +kernel
theorem dX4_init_160 : decode cX4_init 160 = .ok (.aload_n 0, 1) := by decide +kernel
theorem dX4_init_161 : decode cX4_init 161 = .ok (.getfield 13, 3) := by decide +kernel
theorem dX4_init_164 : decode cX4_init 164 = .ok (.bipush 33, 2) := by decide +kernel
theorem dX4_init_166 : decode cX4_init 166 = .ok (.iconst 1, 1) := by decide +kernel
theorem dX4_init_167 : decode cX4_init 167 = .ok (.iastore, 1) := by decide +kernel
theorem dX4_init_168 : decode cX4_init 168 = .ok (.return_, 1) := by decide +kernel
theorem dX4_in_0 : decode cX4_in 0 = .ok (.iload_n 0, 1) := by decide +kernel
theorem dX4_in_1 : decode cX4_in 1 = .ok (.iload_n 1, 1) := by decide +kernel
theorem dX4_in_2 : decode cX4_in 2 = .ok (.if_icmp .lt 12, 3) := by decide +kernel
theorem dX4_in_5 : decode cX4_in 5 = .ok (.iload_n 0, 1) := by decide +kernel
theorem dX4_in_6 : decode cX4_in 6 = .ok (.iload_n 2, 1) := by decide +kernel
theorem dX4_in_7 : decode cX4_in 7 = .ok (.if_icmp .gt 7, 3) := by decide +kernel
theorem dX4_in_10 : decode cX4_in 10 = .ok (.iconst 1, 1) := by decide +kernel
theorem dX4_in_11 : decode cX4_in 11 = .ok (.goto 4, 3) := by decide +kernel
theorem dX4_in_14 : decode cX4_in 14 = .ok (.iconst 0, 1) := by decide +kernel
theorem dX4_in_15 : decode cX4_in 15 = .ok (.ireturn, 1) := by decide +kernel
theorem dX4_isPerson_0 : decode cX4_isPerson 0 = .ok (.iload_n 1, 1) := by decide +kernel
theorem dX4_isPerson_1 : decode cX4_isPerson 1 = .ok (.iconst 0, 1) := by decide +kernel
theorem dX4_isPerson_2 : decode cX4_isPerson 2 = .ok (.aload_n 0, 1) := by decide +kernel
theorem dX4_isPerson_3 : decode cX4_isPerson 3 = .ok (.getfield 13, 3) := by decide +kernel
theorem dX4_isPerson_6 : decode cX4_isPerson 6 = .ok (.iconst 0, 1) := by decide +kernel
theorem dX4_isPerson_7 : decode cX4_isPerson 7 = .ok (.iaload, 1) := by decide +kernel
theorem dX4_isPerson_8 : decode cX4_isPerson 8 = .ok (.iconst 1, 1) := by decide +kernel
theorem dX4_isPerson_9 : decode cX4_isPerson 9 = .ok (.isub, 1) := by decide +kernel
theorem dX4_isPerson_10 : decode cX4_isPerson 10 = .ok (.invokestatic 40, 3) := by decide +kernel
theorem dX4_isPerson_13 : decode cX4_isPerson 13 = .ok (.ireturn, 1) := by decide +kernel
theorem dX4_isTrade_0 : decode cX4_isTrade 0 = .ok (.iload_n 1, 1) := by decide +kernel
theorem dX4_isTrade_1 : decode cX4_isTrade 1 = .ok (.iconst 0, 1) := by decide +kernel
theorem dX4_isTrade_2 : decode cX4_isTrade 2 = .ok (.aload_n 0, 1) := by decide +kernel
theorem dX4_isTrade_3 : decode cX4_isTrade 3 = .ok (.getfield 13, 3) := by decide +kernel
theorem dX4_isTrade_6 : decode cX4_isTrade 6 = .ok (.iconst 1, 1) := by decide +kernel
theorem dX4_isTrade_7 : decode cX4_isTrade 7 = .ok (.iaload, 1) := by decide +kernel
theorem dX4_isTrade_8 : decode cX4_isTrade 8 = .ok (.iconst 1, 1) := by decide +kernel
theorem dX4_isTrade_9 : decode cX4_isTrade 9 = .ok (.isub, 1) := by decide +kernel
theorem dX4_isTrade_10 : decode cX4_isTrade 10 = .ok (.invokestatic 40, 3) := by decide +kernel
theorem dX4_isTrade_13 : decode cX4_isTrade 13 = .ok (.ireturn, 1) := by decide +kernel
theorem dX4_isSet_0 : decode cX4_isSet 0 = .ok (.iload_n 0, 1) := by decide +kernel
theorem dX4_isSet_1 : decode cX4_isSet 1 = .ok (.iconst 0, 1) := by decide +kernel
theorem dX4_isSet_2 : decode cX4_isSet 2 = .ok (.sipush 255, 3) := by decide +kernel
theorem dX4_isSet_5 : decode cX4_isSet 5 = .ok (.invokestatic 40, 3) := by decide +kernel
theorem dX4_isSet_8 : decode cX4_isSet 8 = .ok (.ireturn, 1) := by decide +kernel
theorem dX4_write_0 : decode cX4_write 0 = .ok (.iload_n 1, 1) := by decide +kernel
theorem dX4_write_1 : decode cX4_write 1 = .ok (.iconst 1, 1) := by decide +kernel
theorem dX4_write_2 : decode cX4_write 2 = .ok (.bipush 8, 2) := by decide +kernel
theorem dX4_write_4 : decode cX4_write 4 = .ok (.invokestatic 40, 3) := by decide +kernel
theorem dX4_write_7 : decode cX4_write 7 = .ok (.ifCond .ne 5, 3) := by decide +kernel
theorem dX4_write_10 : decode cX4_write 10 = .ok (.iconst (-1), 1) := by decide +kernel
theorem dX4_write_11 : decode cX4_write 11 = .ok (.ireturn, 1) := by decide +kernel
theorem dX4_write_12 : decode cX4_write 12 = .ok (.aload_n 0, 1) := by decide +kernel
theorem dX4_write_13 : decode cX4_write 13 = .ok (.getfield 44, 3) := by decide +kernel
theorem dX4_write_16 : decode cX4_write 16 = .ok (.iload_n 1, 1) := by decide +kernel
theorem dX4_write_17 : decode cX4_write 17 = .ok (.iadd, 1) := by decide +kernel
theorem dX4_write_18 : decode cX4_write 18 = .ok (.sipush 300, 3) := by decide +kernel
theorem dX4_write_21 : decode cX4_write 21 = .ok (.if_icmp .le 6, 3) := by decide +kernel
theorem dX4_write_24 : decode cX4_write 24 = .ok (.bipush (-3), 2) := by decide +kernel
theorem dX4_write_26 : decode cX4_write 26 = .ok (.ireturn, 1) := by decide +kernel
theorem dX4_write_27 : decode cX4_write 27 = .ok (.iload_n 1, 1) := by decide +kernel
theorem dX4_write_28 : decode cX4_write 28 = .ok (.iconst 1, 1) := by decide +kernel
theorem dX4_write_29 : decode cX4_write 29 = .ok (.isub, 1) := by decide +kernel
theorem dX4_write_30 : decode cX4_write 30 = .ok (.istore 4, 2) := by decide +kernel
theorem dX4_write_32 : decode cX4_write 32 = .ok (.iload 4, 2) := by decide +kernel
theorem dX4_write_34 : decode cX4_write 34 = .ok (.ifCond .lt 40, 3) := by decide +kernel
theorem dX4_write_37 : decode cX4_write 37 = .ok (.aload_n 0, 1) := by decide +kernel
theorem dX4_write_38 : decode cX4_write 38 = .ok (.getfield 7, 3) := by decide +kernel
theorem dX4_write_41 : decode cX4_write 41 = .ok (.aload_n 0, 1) := by decide +kernel
theorem dX4_write_42 : decode cX4_write 42 = .ok (.getfield 44, 3) := by decide +kernel
theorem dX4_write_45 : decode cX4_write 45 = .ok (.lload_n 2, 1) := by decide +kernel
theorem dX4_write_46 : decode cX4_write 46 = .ok (.bipush 8, 2) := by decide +kernel
theorem dX4_write_48 : decode cX4_write 48 = .ok (.iload 4, 2) := by decide +kernel
theorem dX4_write_50 : decode cX4_write 50 = .ok (.imul, 1) := by decide +kernel
theorem dX4_write_51 : decode cX4_write 51 = .ok (.lshr, 1) := by decide +kernel
theorem dX4_write_52 : decode cX4_write 52 = .ok (.ldc2_w 48, 3) := by decide +kernel
theorem dX4_write_55 : decode cX4_write 55 = .ok (.land, 1) := by decide +kernel
theorem dX4_write_56 : decode cX4_write 56 = .ok (.l2i, 1) := by decide +kernel
theorem dX4_write_57 : decode cX4_write 57 = .ok (.iastore, 1) := by decide +kernel
theorem dX4_write_58 : decode cX4_write 58 = .ok (.aload_n 0, 1) := by decide +kernel
theorem dX4_write_59 : decode cX4_write 59 = .ok (.dup, 1) := by decide +kernel
theorem dX4_write_60 : decode cX4_write 60 = .ok (.getfield 44, 3) := by decide +kernel
theorem dX4_write_63 : decode cX4_write 63 = .ok (.iconst 1, 1) := by decide +kernel
theorem dX4_write_64 : decode cX4_write 64 = .ok (.iadd, 1) := by decide +kernel
theorem dX4_write_65 : decode cX4_write 65 = .ok (.putfield 44, 3) := by decide +kernel
theorem dX4_write_68 : decode cX4_write 68 = .ok (.iinc 4 (-1), 3) := by decide +kernel
theorem dX4_write_71 : decode cX4_write 71 = .ok (.goto (-39), 3) := by decide +kernel
theorem dX4_write_74 : decode cX4_write 74 = .ok (.aload_n 0, 1) := by decide +kernel
theorem dX4_write_75 : decode cX4_write 75 = .ok (.getfield 44, 3) := by decide +kernel
theorem dX4_write_78 : decode cX4_write 78 = .ok (.ireturn, 1) := by decide +kernel
theorem dX4_wipe_0 : decode cX4_wipe 0 = .ok (.aload_n 0, 1) := by decide +kernel
theorem dX4_wipe_1 : decode cX4_wipe 1 = .ok (.getfield 44, 3) := by decide +kernel
theorem dX4_wipe_4 : decode cX4_wipe 4 = .ok (.istore_n 1, 1) := by decide +kernel
theorem dX4_wipe_5 : decode cX4_wipe 5 = .ok (.aload_n 0, 1) := by decide +kernel
theorem dX4_wipe_6 : decode cX4_wipe 6 = .ok (.iconst 0, 1) := by decide +kernel
theorem dX4_wipe_7 : decode cX4_wipe 7 = .ok (.putfield 44, 3) := by decide +kernel
theorem dX4_wipe_10 : decode cX4_wipe 10 = .ok (.iload_n 1, 1) := by decide +kernel
theorem dX4_wipe_11 : decode cX4_wipe 11 = .ok (.ireturn, 1) := by decide +kernel
theorem dX4_byteAt_0 : decode cX4_byteAt 0 = .ok (.iload_n 1, 1) := by decide +kernel
theorem dX4_byteAt_1 : decode cX4_byteAt 1 = .ok (.aload_n 0, 1) := by decide +kernel
theorem dX4_byteAt_2 : decode cX4_byteAt 2 = .ok (.getfield 44, 3) := by decide +kernel
theorem dX4_byteAt_5 : decode cX4_byteAt 5 = .ok (.if_icmp .ge 12, 3) := by decide +kernel
theorem dX4_byteAt_8 : decode cX4_byteAt 8 = .ok (.aload_n 0, 1) := by decide +kernel
theorem dX4_byteAt_9 : decode cX4_byteAt 9 = .ok (.getfield 7, 3) := by decide +kernel
theorem dX4_byteAt_12 : decode cX4_byteAt 12 = .ok (.iload_n 1, 1) := by decide +kernel
theorem dX4_byteAt_13 : decode cX4_byteAt 13 = .ok (.iaload, 1) := by decide +kernel
theorem dX4_byteAt_14 : decode cX4_byteAt 14 = .ok (.goto 4, 3) := by decide +kernel
theorem dX4_byteAt_17 : decode cX4_byteAt 17 = .ok (.iconst (-1), 1) := by decide +kernel
theorem dX4_byteAt_18 : decode cX4_byteAt 18 = .ok (.ireturn, 1) := by decide +kernel
theorem dX4_isFigure_0 : decode cX4_isFigure 0 = .ok (.aload_n 0, 1) := by decide +kernel
theorem dX4_isFigure_1 : decode cX4_isFigure 1 = .ok (.aload_n 0, 1) := by decide +kernel
theorem dX4_isFigure_2 : decode cX4_isFigure 2 = .ok (.getfield 50, 3) := by decide +kernel
theorem dX4_isFigure_5 : decode cX4_isFigure 5 = .ok (.invokevirtual 53, 3) := by decide +kernel
theorem dX4_isFigure_8 : decode cX4_isFigure 8 = .ok (.bipush 48, 2) := by decide +kernel
theorem dX4_isFigure_10 : decode cX4_isFigure 10 = .ok (.bipush 57, 2) := by decide +kernel
theorem dX4_isFigure_12 : decode cX4_isFigure 12 = .ok (.invokestatic 40, 3) := by decide +kernel
theorem dX4_isFigure_15 : decode cX4_isFigure 15 = .ok (.ireturn, 1) := by decide +kernel
theorem dX4_numbers_0 : decode cX4_numbers 0 = .ok (.iconst 0, 1) := by decide +kernel
theorem dX4_numbers_1 : decode cX4_numbers 1 = .ok (.istore_n 2, 1) := by decide +kernel
theorem dX4_numbers_2 : decode cX4_numbers 2 = .ok (.iload_n 2, 1) := by decide +kernel
theorem dX4_numbers_3 : decode cX4_numbers 3 = .ok (.iload_n 1, 1) := by decide +kernel
theorem dX4_numbers_4 : decode cX4_numbers 4 = .ok (.if_icmp .ge 119, 3) := by decide +kernel
theorem dX4_numbers_7 : decode cX4_numbers 7 = .ok (.aload_n 0, 1) := by decide +kernel
theorem dX4_numbers_8 : decode cX4_numbers 8 = .ok (.getfield 50, 3) := by decide +kernel
theorem dX4_numbers_11 : decode cX4_numbers 11 = .ok (.istore_n 3, 1) := by decide +kernel
theorem dX4_numbers_12 : decode cX4_numbers 12 = .ok (.iconst 0, 1) := by decide +kernel
theorem dX4_numbers_13 : decode cX4_numbers 13 = .ok (.istore 4, 2) := by decide +kernel
theorem dX4_numbers_15 : decode cX4_numbers 15 = .ok (.aload_n 0, 1) := by decide +kernel
theorem dX4_numbers_16 : decode cX4_numbers 16 = .ok (.getfield 50, 3) := by decide +kernel
theorem dX4_numbers_19 : decode cX4_numbers 19 = .ok (.iload_n 3, 1) := by decide +kernel
theorem dX4_numbers_20 : decode cX4_numbers 20 = .ok (.iconst 3, 1) := by decide +kernel
theorem dX4_numbers_21 : decode cX4_numbers 21 = .ok (.iadd, 1) := by decide +kernel
theorem dX4_numbers_22 : decode cX4_numbers 22 = .ok (.if_icmp .ge 42, 3) := by decide +kernel
theorem dX4_numbers_25 : decode cX4_numbers 25 = .ok (.aload_n 0, 1) := by decide +kernel
theorem dX4_numbers_26 : decode cX4_numbers 26 = .ok (.invokevirtual 57, 3) := by decide +kernel
theorem dX4_numbers_29 : decode cX4_numbers 29 = .ok (.ifCond .eq 35, 3) := by decide +kernel
theorem dX4_numbers_32 : decode cX4_numbers 32 = .ok (.bipush 10, 2) := by decide +kernel
theorem dX4_numbers_34 : decode cX4_numbers 34 = .ok (.iload 4, 2) := by decide +kernel
theorem dX4_numbers_36 : decode cX4_numbers 36 = .ok (.imul, 1) := by decide +kernel
theorem dX4_numbers_37 : decode cX4_numbers 37 = .ok (.aload_n 0, 1) := by decide +kernel
theorem dX4_numbers_38 : decode cX4_numbers 38 = .ok (.aload_n 0, 1) := by decide +kernel
theorem dX4_numbers_39 : decode cX4_numbers 39 = .ok (.getfield 50, 3) := by decide +kernel
theorem dX4_numbers_42 : decode cX4_numbers 42 = .ok (.invokevirtual 53, 3) := by decide +kernel
theorem dX4_numbers_45 : decode cX4_numbers 45 = .ok (.iadd, 1) := by decide +kernel
theorem dX4_numbers_46 : decode cX4_numbers 46 = .ok (.bipush 48, 2) := by decide +kernel
theorem dX4_numbers_48 : decode cX4_numbers 48 = .ok (.isub, 1) := by decide +kernel
theorem dX4_numbers_49 : decode cX4_numbers 49 = .ok (.istore 4, 2) := by decide +kernel
theorem dX4_numbers_51 : decode cX4_numbers 51 = .ok (.aload_n 0, 1) := by decide +kernel
theorem dX4_numbers_52 : decode cX4_numbers 52 = .ok (.dup, 1) := by decide +kernel
theorem dX4_numbers_53 : decode cX4_numbers 53 = .ok (.getfield 50, 3) := by decide +kernel
theorem dX4_numbers_56 : decode cX4_numbers 56 = .ok (.iconst 1, 1) := by decide +kernel
theorem dX4_numbers_57 : decode cX4_numbers 57 = .ok (.iadd, 1) := by decide +kernel
theorem dX4_numbers_58 : decode cX4_numbers 58 = .ok (.putfield 50, 3) := by decide +kernel
theorem dX4_numbers_61 : decode cX4_numbers 61 = .ok (.goto (-46), 3) := by decide +kernel
theorem dX4_numbers_64 : decode cX4_numbers 64 = .ok (.aload_n 0, 1) := by decide +kernel
theorem dX4_numbers_65 : decode cX4_numbers 65 = .ok (.getfield 37, 3) := by decide +kernel
theorem dX4_numbers_68 : decode cX4_numbers 68 = .ok (.iload_n 2, 1) := by decide +kernel
theorem dX4_numbers_69 : decode cX4_numbers 69 = .ok (.iload 4, 2) := by decide +kernel
theorem dX4_numbers_71 : decode cX4_numbers 71 = .ok (.iastore, 1) := by decide +kernel
theorem dX4_numbers_72 : decode cX4_numbers 72 = .ok (.aload_n 0, 1) := by decide +kernel
theorem dX4_numbers_73 : decode cX4_numbers 73 = .ok (.getfield 50, 3) := by decide +kernel
theorem dX4_numbers_76 : decode cX4_numbers 76 = .ok (.iload_n 3, 1) := by decide +kernel
theorem dX4_numbers_77 : decode cX4_numbers 77 = .ok (.if_icmp .eq 28, 3) := by decide +kernel
theorem dX4_numbers_80 : decode cX4_numbers 80 = .ok (.aload_n 0, 1) := by decide +kernel
theorem dX4_numbers_81 : decode cX4_numbers 81 = .ok (.aload_n 0, 1) := by decide +kernel
theorem dX4_numbers_82 : decode cX4_numbers 82 = .ok (.getfield 50, 3) := by decide +kernel
theorem dX4_numbers_85 : decode cX4_numbers 85 = .ok (.invokevirtual 53, 3) := by decide +kernel
theorem dX4_numbers_88 : decode cX4_numbers 88 = .ok (.iload_n 2, 1) := by decide +kernel
theorem dX4_numbers_89 : decode cX4_numbers 89 = .ok (.iload_n 1, 1) := by decide +kernel
theorem dX4_numbers_90 : decode cX4_numbers 90 = .ok (.iconst 1, 1) := by decide +kernel
theorem dX4_numbers_91 : decode cX4_numbers 91 = .ok (.isub, 1) := by decide +kernel
theorem dX4_numbers_92 : decode cX4_numbers 92 = .ok (.if_icmp .ge 8, 3) := by decide +kernel
theorem dX4_numbers_95 : decode cX4_numbers 95 = .ok (.bipush 44, 2) := by decide +kernel
theorem dX4_numbers_97 : decode cX4_numbers 97 = .ok (.goto 5, 3) := by decide +kernel
theorem dX4_numbers_100 : decode cX4_numbers 100 = .ok (.bipush 59, 2) := by decide +kernel
theorem dX4_numbers_102 : decode cX4_numbers 102 = .ok (.if_icmp .eq 5, 3) := by decide +kernel
theorem dX4_numbers_105 : decode cX4_numbers 105 = .ok (.iconst 0, 1) := by decide +kernel
theorem dX4_numbers_106 : decode cX4_numbers 106 = .ok (.ireturn, 1) := by decide +kernel
theorem dX4_numbers_107 : decode cX4_numbers 107 = .ok (.aload_n 0, 1) := by decide +kernel
theorem dX4_numbers_108 : decode cX4_numbers 108 = .ok (.dup, 1) := by decide +kernel
theorem dX4_numbers_109 : decode cX4_numbers 109 = .ok (.getfield 50, 3) := by decide +kernel
theorem dX4_numbers_112 : decode cX4_numbers 112 = .ok (.iconst 1, 1) := by decide +kernel
theorem dX4_numbers_113 : decode cX4_numbers 113 = .ok (.iadd, 1) := by decide +kernel
theorem dX4_numbers_114 : decode cX4_numbers 114 = .ok (.putfield 50, 3) := by decide +kernel
theorem dX4_numbers_117 : decode cX4_numbers 117 = .ok (.iinc 2 1, 3) := by decide +kernel
theorem dX4_numbers_120 : decode cX4_numbers 120 = .ok (.goto (-118), 3) := by decide +kernel
theorem dX4_numbers_123 : decode cX4_numbers 123 = .ok (.iconst 1, 1) := by decide +kernel
theorem dX4_numbers_124 : decode cX4_numbers 124 = .ok (.ireturn, 1) := by decide +kernel
theorem dX4_person_0 : decode cX4_person 0 = .ok (.aload_n 0, 1) := by decide +kernel
theorem dX4_person_1 : decode cX4_person 1 = .ok (.getfield 16, 3) := by decide +kernel
theorem dX4_person_4 : decode cX4_person 4 = .ok (.iconst 0, 1) := by decide +kernel
theorem dX4_person_5 : decode cX4_person 5 = .ok (.iaload, 1) := by decide +kernel
theorem dX4_person_6 : decode cX4_person 6 = .ok (.iconst 5, 1) := by decide +kernel
theorem dX4_person_7 : decode cX4_person 7 = .ok (.if_icmp .eq 33, 3) := by decide +kernel
theorem dX4_person_10 : decode cX4_person 10 = .ok (.aload_n 0, 1) := by decide +kernel
theorem dX4_person_11 : decode cX4_person 11 = .ok (.iconst 2, 1) := by decide +kernel
theorem dX4_person_12 : decode cX4_person 12 = .ok (.invokevirtual 61, 3) := by decide +kernel
theorem dX4_person_15 : decode cX4_person 15 = .ok (.ifCond .eq 25, 3) := by decide +kernel
theorem dX4_person_18 : decode cX4_person 18 = .ok (.aload_n 0, 1) := by decide +kernel
theorem dX4_person_19 : decode cX4_person 19 = .ok (.getfield 37, 3) := by decide +kernel
theorem dX4_person_22 : decode cX4_person 22 = .ok (.iconst 0, 1) := by decide +kernel
theorem dX4_person_23 : decode cX4_person 23 = .ok (.iaload, 1) := by decide +kernel
theorem dX4_person_24 : decode cX4_person 24 = .ok (.bipush 63, 2) := by decide +kernel
theorem dX4_person_26 : decode cX4_person 26 = .ok (.if_icmp .gt 14, 3) := by decide +kernel
theorem dX4_person_29 : decode cX4_person 29 = .ok (.aload_n 0, 1) := by decide +kernel
theorem dX4_person_30 : decode cX4_person 30 = .ok (.getfield 37, 3) := by decide +kernel
theorem dX4_person_33 : decode cX4_person 33 = .ok (.iconst 1, 1) := by decide +kernel
theorem dX4_person_34 : decode cX4_person 34 = .ok (.iaload, 1) := by decide +kernel
theorem dX4_person_35 : decode cX4_person 35 = .ok (.bipush 63, 2) := by decide +kernel
theorem dX4_person_37 : decode cX4_person 37 = .ok (.if_icmp .le 5, 3) := by decide +kernel
theorem dX4_person_40 : decode cX4_person 40 = .ok (.iconst 0, 1) := by decide +kernel
theorem dX4_person_41 : decode cX4_person 41 = .ok (.ireturn, 1) := by decide +kernel
theorem dX4_person_42 : decode cX4_person 42 = .ok (.aload_n 0, 1) := by decide +kernel
theorem dX4_person_43 : decode cX4_person 43 = .ok (.getfield 16, 3) := by decide +kernel
theorem dX4_person_46 : decode cX4_person 46 = .ok (.bipush 8, 2) := by decide +kernel
theorem dX4_person_48 : decode cX4_person 48 = .ok (.iconst 2, 1) := by decide +kernel
theorem dX4_person_49 : decode cX4_person 49 = .ok (.aload_n 0, 1) := by decide +kernel
theorem dX4_person_50 : decode cX4_person 50 = .ok (.getfield 16, 3) := by decide +kernel
theorem dX4_person_53 : decode cX4_person 53 = .ok (.iconst 0, 1) := by decide +kernel
theorem dX4_person_54 : decode cX4_person 54 = .ok (.iaload, 1) := by decide +kernel
theorem dX4_person_55 : decode cX4_person 55 = .ok (.imul, 1) := by decide +kernel
theorem dX4_person_56 : decode cX4_person 56 = .ok (.iadd, 1) := by decide +kernel
theorem dX4_person_57 : decode cX4_person 57 = .ok (.aload_n 0, 1) := by decide +kernel
theorem dX4_person_58 : decode cX4_person 58 = .ok (.getfield 37, 3) := by decide +kernel
theorem dX4_person_61 : decode cX4_person 61 = .ok (.iconst 0, 1) := by decide +kernel
theorem dX4_person_62 : decode cX4_person 62 = .ok (.iaload, 1) := by decide +kernel
theorem dX4_person_63 : decode cX4_person 63 = .ok (.iastore, 1) := by decide +kernel
theorem dX4_person_64 : decode cX4_person 64 = .ok (.aload_n 0, 1) := by decide +kernel
theorem dX4_person_65 : decode cX4_person 65 = .ok (.getfield 16, 3) := by decide +kernel
theorem dX4_person_68 : decode cX4_person 68 = .ok (.bipush 8, 2) := by decide +kernel
theorem dX4_person_70 : decode cX4_person 70 = .ok (.iconst 2, 1) := by decide +kernel
theorem dX4_person_71 : decode cX4_person 71 = .ok (.aload_n 0, 1) := by decide +kernel
theorem dX4_person_72 : decode cX4_person 72 = .ok (.getfield 16, 3) := by decide +kernel
theorem dX4_person_75 : decode cX4_person 75 = .ok (.iconst 0, 1) := by decide +kernel
theorem dX4_person_76 : decode cX4_person 76 = .ok (.iaload, 1) := by decide +kernel
theorem dX4_person_77 : decode cX4_person 77 = .ok (.imul, 1) := by decide +kernel
theorem dX4_person_78 : decode cX4_person 78 = .ok (.iadd, 1) := by decide +kernel
theorem dX4_person_79 : decode cX4_person 79 = .ok (.iconst 1, 1) := by decide +kernel
theorem dX4_person_80 : decode cX4_person 80 = .ok (.iadd, 1) := by decide +kernel
theorem dX4_person_81 : decode cX4_person 81 = .ok (.aload_n 0, 1) := by decide +kernel
theorem dX4_person_82 : decode cX4_person 82 = .ok (.getfield 37, 3) := by decide +kernel
theorem dX4_person_85 : decode cX4_person 85 = .ok (.iconst 1, 1) := by decide +kernel
theorem dX4_person_86 : decode cX4_person 86 = .ok (.iaload, 1) := by decide +kernel
theorem dX4_person_87 : decode cX4_person 87 = .ok (.iastore, 1) := by decide +kernel
theorem dX4_person_88 : decode cX4_person 88 = .ok (.aload_n 0, 1) := by decide +kernel
theorem dX4_person_89 : decode cX4_person 89 = .ok (.getfield 16, 3) := by decide +kernel
theorem dX4_person_92 : decode cX4_person 92 = .ok (.iconst 0, 1) := by decide +kernel
theorem dX4_person_93 : decode cX4_person 93 = .ok (.dup2, 1) := by decide +kernel
theorem dX4_person_94 : decode cX4_person 94 = .ok (.iaload, 1) := by decide +kernel
theorem dX4_person_95 : decode cX4_person 95 = .ok (.iconst 1, 1) := by decide +kernel
theorem dX4_person_96 : decode cX4_person 96 = .ok (.iadd, 1) := by decide +kernel
theorem dX4_person_97 : decode cX4_person 97 = .ok (.iastore, 1) := by decide +kernel
theorem dX4_person_98 : decode cX4_person 98 = .ok (.iconst 1, 1) := by decide +kernel
theorem dX4_person_99 : decode cX4_person 99 = .ok (.ireturn, 1) := by decide +kernel
theorem dX4_trade_0 : decode cX4_trade 0 = .ok (.iconst 0, 1) := by decide +kernel
theorem dX4_trade_1 : decode cX4_trade 1 = .ok (.istore_n 1, 1) := by decide +kernel
theorem dX4_trade_2 : decode cX4_trade 2 = .ok (.aload_n 0, 1) := by decide +kernel
theorem dX4_trade_3 : decode cX4_trade 3 = .ok (.getfield 16, 3) := by decide +kernel
theorem dX4_trade_6 : decode cX4_trade 6 = .ok (.iconst 1, 1) := by decide +kernel
theorem dX4_trade_7 : decode cX4_trade 7 = .ok (.iaload, 1) := by decide +kernel
theorem dX4_trade_8 : decode cX4_trade 8 = .ok (.iconst 4, 1) := by decide +kernel
theorem dX4_trade_9 : decode cX4_trade 9 = .ok (.if_icmp .ge 73, 3) := by decide +kernel
theorem dX4_trade_12 : decode cX4_trade 12 = .ok (.iload_n 1, 1) := by decide +kernel
theorem dX4_trade_13 : decode cX4_trade 13 = .ok (.bipush 8, 2) := by decide +kernel
theorem dX4_trade_15 : decode cX4_trade 15 = .ok (.if_icmp .ge 67, 3) := by decide +kernel
theorem dX4_trade_18 : decode cX4_trade 18 = .ok (.aload_n 0, 1) := by decide +kernel
theorem dX4_trade_19 : decode cX4_trade 19 = .ok (.aload_n 0, 1) := by decide +kernel
theorem dX4_trade_20 : decode cX4_trade 20 = .ok (.getfield 50, 3) := by decide +kernel
theorem dX4_trade_23 : decode cX4_trade 23 = .ok (.invokevirtual 53, 3) := by decide +kernel
theorem dX4_trade_26 : decode cX4_trade 26 = .ok (.bipush 48, 2) := by decide +kernel
theorem dX4_trade_28 : decode cX4_trade 28 = .ok (.bipush 53, 2) := by decide +kernel
theorem dX4_trade_30 : decode cX4_trade 30 = .ok (.invokestatic 40, 3) := by decide +kernel
theorem dX4_trade_33 : decode cX4_trade 33 = .ok (.ifCond .eq 49, 3) := by decide +kernel
theorem dX4_trade_36 : decode cX4_trade 36 = .ok (.aload_n 0, 1) := by decide +kernel
theorem dX4_trade_37 : decode cX4_trade 37 = .ok (.getfield 16, 3) := by decide +kernel
theorem dX4_trade_40 : decode cX4_trade 40 = .ok (.bipush 32, 2) := by decide +kernel
theorem dX4_trade_42 : decode cX4_trade 42 = .ok (.bipush 8, 2) := by decide +kernel
theorem dX4_trade_44 : decode cX4_trade 44 = .ok (.aload_n 0, 1) := by decide +kernel
theorem dX4_trade_45 : decode cX4_trade 45 = .ok (.getfield 16, 3) := by decide +kernel
theorem dX4_trade_48 : decode cX4_trade 48 = .ok (.iconst 1, 1) := by decide +kernel
theorem dX4_trade_49 : decode cX4_trade 49 = .ok (.iaload, 1) := by decide +kernel
theorem dX4_trade_50 : decode cX4_trade 50 = .ok (.imul, 1) := by decide +kernel
theorem dX4_trade_51 : decode cX4_trade 51 = .ok (.iadd, 1) := by decide +kernel
theorem dX4_trade_52 : decode cX4_trade 52 = .ok (.iload_n 1, 1) := by decide +kernel
theorem dX4_trade_53 : decode cX4_trade 53 = .ok (.iadd, 1) := by decide +kernel
theorem dX4_trade_54 : decode cX4_trade 54 = .ok (.aload_n 0, 1) := by decide +kernel
theorem dX4_trade_55 : decode cX4_trade 55 = .ok (.aload_n 0, 1) := by decide +kernel
theorem dX4_trade_56 : decode cX4_trade 56 = .ok (.getfield 50, 3) := by decide +kernel
theorem dX4_trade_59 : decode cX4_trade 59 = .ok (.invokevirtual 53, 3) := by decide +kernel
theorem dX4_trade_62 : decode cX4_trade 62 = .ok (.bipush 48, 2) := by decide +kernel
theorem dX4_trade_64 : decode cX4_trade 64 = .ok (.isub, 1) := by decide +kernel
theorem dX4_trade_65 : decode cX4_trade 65 = .ok (.iastore, 1) := by decide +kernel
theorem dX4_trade_66 : decode cX4_trade 66 = .ok (.aload_n 0, 1) := by decide +kernel
theorem dX4_trade_67 : decode cX4_trade 67 = .ok (.dup, 1) := by decide +kernel
theorem dX4_trade_68 : decode cX4_trade 68 = .ok (.getfield 50, 3) := by decide +kernel
theorem dX4_trade_71 : decode cX4_trade 71 = .ok (.iconst 1, 1) := by decide +kernel
theorem dX4_trade_72 : decode cX4_trade 72 = .ok (.iadd, 1) := by decide +kernel
theorem dX4_trade_73 : decode cX4_trade 73 = .ok (.putfield 50, 3) := by decide +kernel
theorem dX4_trade_76 : decode cX4_trade 76 = .ok (.iinc 1 1, 3) := by decide +kernel
theorem dX4_trade_79 : decode cX4_trade 79 = .ok (.goto (-77), 3) := by decide +kernel
theorem dX4_trade_82 : decode cX4_trade 82 = .ok (.iload_n 1, 1) := by decide +kernel
theorem dX4_trade_83 : decode cX4_trade 83 = .ok (.ifCond .eq 16, 3) := by decide +kernel
theorem dX4_trade_86 : decode cX4_trade 86 = .ok (.aload_n 0, 1) := by decide +kernel
theorem dX4_trade_87 : decode cX4_trade 87 = .ok (.aload_n 0, 1) := by decide +kernel
theorem dX4_trade_88 : decode cX4_trade 88 = .ok (.getfield 50, 3) := by decide +kernel
theorem dX4_trade_91 : decode cX4_trade 91 = .ok (.invokevirtual 53, 3) := by decide +kernel
theorem dX4_trade_94 : decode cX4_trade 94 = .ok (.bipush 59, 2) := by decide +kernel
theorem dX4_trade_96 : decode cX4_trade 96 = .ok (.if_icmp .eq 5, 3) := by decide +kernel
theorem dX4_trade_99 : decode cX4_trade 99 = .ok (.iconst 0, 1) := by decide +kernel
theorem dX4_trade_100 : decode cX4_trade 100 = .ok (.ireturn, 1) := by decide +kernel
theorem dX4_trade_101 : decode cX4_trade 101 = .ok (.aload_n 0, 1) := by decide +kernel
theorem dX4_trade_102 : decode cX4_trade 102 = .ok (.getfield 16, 3) := by decide +kernel
theorem dX4_trade_105 : decode cX4_trade 105 = .ok (.bipush 28, 2) := by decide +kernel
theorem dX4_trade_107 : decode cX4_trade 107 = .ok (.aload_n 0, 1) := by decide +kernel
theorem dX4_trade_108 : decode cX4_trade 108 = .ok (.getfield 16, 3) := by decide +kernel
theorem dX4_trade_111 : decode cX4_trade 111 = .ok (.iconst 1, 1) := by decide +kernel
theorem dX4_trade_112 : decode cX4_trade 112 = .ok (.iaload, 1) := by decide +kernel
theorem dX4_trade_113 : decode cX4_trade 113 = .ok (.iadd, 1) := by decide +kernel
theorem dX4_trade_114 : decode cX4_trade 114 = .ok (.iload_n 1, 1) := by decide +kernel
theorem dX4_trade_115 : decode cX4_trade 115 = .ok (.iastore, 1) := by decide +kernel
theorem dX4_trade_116 : decode cX4_trade 116 = .ok (.aload_n 0, 1) := by decide +kernel
theorem dX4_trade_117 : decode cX4_trade 117 = .ok (.getfield 16, 3) := by decide +kernel
theorem dX4_trade_120 : decode cX4_trade 120 = .ok (.iconst 1, 1) := by decide +kernel
theorem dX4_trade_121 : decode cX4_trade 121 = .ok (.dup2, 1) := by decide +kernel
theorem dX4_trade_122 : decode cX4_trade 122 = .ok (.iaload, 1) := by decide +kernel
theorem dX4_trade_123 : decode cX4_trade 123 = .ok (.iconst 1, 1) := by decide +kernel
theorem dX4_trade_124 : decode cX4_trade 124 = .ok (.iadd, 1) := by decide +kernel
theorem dX4_trade_125 : decode cX4_trade 125 = .ok (.iastore, 1) := by decide +kernel
theorem dX4_trade_126 : decode cX4_trade 126 = .ok (.aload_n 0, 1) := by decide +kernel
theorem dX4_trade_127 : decode cX4_trade 127 = .ok (.dup, 1) := by decide +kernel
theorem dX4_trade_128 : decode cX4_trade 128 = .ok (.getfield 50, 3) := by decide +kernel
theorem dX4_trade_131 : decode cX4_trade 131 = .ok (.iconst 1, 1) := by decide +kernel
theorem dX4_trade_132 : decode cX4_trade 132 = .ok (.iadd, 1) := by decide +kernel
theorem dX4_trade_133 : decode cX4_trade 133 = .ok (.putfield 50, 3) := by decide +kernel
theorem dX4_trade_136 : decode cX4_trade 136 = .ok (.iconst 1, 1) := by decide +kernel
theorem dX4_trade_137 : decode cX4_trade 137 = .ok (.ireturn, 1) := by decide +kernel
theorem dX4_isHalf_0 : decode cX4_isHalf 0 = .ok (.aload_n 0, 1) := by decide +kernel
theorem dX4_isHalf_1 : decode cX4_isHalf 1 = .ok (.getfield 37, 3) := by decide +kernel
theorem dX4_isHalf_4 : decode cX4_isHalf 4 = .ok (.iload_n 1, 1) := by decide +kernel
theorem dX4_isHalf_5 : decode cX4_isHalf 5 = .ok (.iaload, 1) := by decide +kernel
theorem dX4_isHalf_6 : decode cX4_isHalf 6 = .ok (.aload_n 0, 1) := by decide +kernel
theorem dX4_isHalf_7 : decode cX4_isHalf 7 = .ok (.getfield 16, 3) := by decide +kernel
theorem dX4_isHalf_10 : decode cX4_isHalf 10 = .ok (.iconst 0, 1) := by decide +kernel
theorem dX4_isHalf_11 : decode cX4_isHalf 11 = .ok (.iaload, 1) := by decide +kernel
theorem dX4_isHalf_12 : decode cX4_isHalf 12 = .ok (.if_icmp .ge 19, 3) := by decide +kernel
theorem dX4_isHalf_15 : decode cX4_isHalf 15 = .ok (.aload_n 0, 1) := by decide +kernel
theorem dX4_isHalf_16 : decode cX4_isHalf 16 = .ok (.getfield 37, 3) := by decide +kernel
theorem dX4_isHalf_19 : decode cX4_isHalf 19 = .ok (.iload_n 1, 1) := by decide +kernel
theorem dX4_isHalf_20 : decode cX4_isHalf 20 = .ok (.iconst 1, 1) := by decide +kernel
theorem dX4_isHalf_21 : decode cX4_isHalf 21 = .ok (.iadd, 1) := by decide +kernel
theorem dX4_isHalf_22 : decode cX4_isHalf 22 = .ok (.iaload, 1) := by decide +kernel
theorem dX4_isHalf_23 : decode cX4_isHalf 23 = .ok (.iconst 2, 1) := by decide +kernel
theorem dX4_isHalf_24 : decode cX4_isHalf 24 = .ok (.if_icmp .ge 7, 3) := by decide +kernel
theorem dX4_isHalf_27 : decode cX4_isHalf 27 = .ok (.iconst 1, 1) := by decide +kernel
theorem dX4_isHalf_28 : decode cX4_isHalf 28 = .ok (.goto 4, 3) := by decide +kernel
theorem dX4_isHalf_31 : decode cX4_isHalf 31 = .ok (.iconst 0, 1) := by decide +kernel
theorem dX4_isHalf_32 : decode cX4_isHalf 32 = .ok (.ireturn, 1) := by decide +kernel
theorem dX4_known_0 : decode cX4_known 0 = .ok (.aload_n 0, 1) := by decide +kernel
theorem dX4_known_1 : decode cX4_known 1 = .ok (.iconst 3, 1) := by decide +kernel
theorem dX4_known_2 : decode cX4_known 2 = .ok (.invokevirtual 61, 3) := by decide +kernel
theorem dX4_known_5 : decode cX4_known 5 = .ok (.ifCond .eq 23, 3) := by decide +kernel
theorem dX4_known_8 : decode cX4_known 8 = .ok (.aload_n 0, 1) := by decide +kernel
theorem dX4_known_9 : decode cX4_known 9 = .ok (.iconst 0, 1) := by decide +kernel
theorem dX4_known_10 : decode cX4_known 10 = .ok (.invokevirtual 65, 3) := by decide +kernel
theorem dX4_known_13 : decode cX4_known 13 = .ok (.ifCond .eq 15, 3) := by decide +kernel
theorem dX4_known_16 : decode cX4_known 16 = .ok (.aload_n 0, 1) := by decide +kernel
theorem dX4_known_17 : decode cX4_known 17 = .ok (.getfield 37, 3) := by decide +kernel
theorem dX4_known_20 : decode cX4_known 20 = .ok (.iconst 2, 1) := by decide +kernel
theorem dX4_known_21 : decode cX4_known 21 = .ok (.iaload, 1) := by decide +kernel
theorem dX4_known_22 : decode cX4_known 22 = .ok (.sipush 255, 3) := by decide +kernel
theorem dX4_known_25 : decode cX4_known 25 = .ok (.if_icmp .le 5, 3) := by decide +kernel
theorem dX4_known_28 : decode cX4_known 28 = .ok (.iconst 0, 1) := by decide +kernel
theorem dX4_known_29 : decode cX4_known 29 = .ok (.ireturn, 1) := by decide +kernel
theorem dX4_known_30 : decode cX4_known 30 = .ok (.aload_n 0, 1) := by decide +kernel
theorem dX4_known_31 : decode cX4_known 31 = .ok (.getfield 16, 3) := by decide +kernel
theorem dX4_known_34 : decode cX4_known 34 = .ok (.bipush 18, 2) := by decide +kernel
theorem dX4_known_36 : decode cX4_known 36 = .ok (.iconst 2, 1) := by decide +kernel
theorem dX4_known_37 : decode cX4_known 37 = .ok (.aload_n 0, 1) := by decide +kernel
theorem dX4_known_38 : decode cX4_known 38 = .ok (.getfield 37, 3) := by decide +kernel
theorem dX4_known_41 : decode cX4_known 41 = .ok (.iconst 0, 1) := by decide +kernel
theorem dX4_known_42 : decode cX4_known 42 = .ok (.iaload, 1) := by decide +kernel
theorem dX4_known_43 : decode cX4_known 43 = .ok (.imul, 1) := by decide +kernel
theorem dX4_known_44 : decode cX4_known 44 = .ok (.iadd, 1) := by decide +kernel
theorem dX4_known_45 : decode cX4_known 45 = .ok (.aload_n 0, 1) := by decide +kernel
theorem dX4_known_46 : decode cX4_known 46 = .ok (.getfield 37, 3) := by decide +kernel
theorem dX4_known_49 : decode cX4_known 49 = .ok (.iconst 1, 1) := by decide +kernel
theorem dX4_known_50 : decode cX4_known 50 = .ok (.iaload, 1) := by decide +kernel
theorem dX4_known_51 : decode cX4_known 51 = .ok (.iadd, 1) := by decide +kernel
theorem dX4_known_52 : decode cX4_known 52 = .ok (.aload_n 0, 1) := by decide +kernel
theorem dX4_known_53 : decode cX4_known 53 = .ok (.getfield 37, 3) := by decide +kernel
theorem dX4_known_56 : decode cX4_known 56 = .ok (.iconst 2, 1) := by decide +kernel
theorem dX4_known_57 : decode cX4_known 57 = .ok (.iaload, 1) := by decide +kernel
theorem dX4_known_58 : decode cX4_known 58 = .ok (.iastore, 1) := by decide +kernel
theorem dX4_known_59 : decode cX4_known 59 = .ok (.iconst 1, 1) := by decide +kernel
theorem dX4_known_60 : decode cX4_known 60 = .ok (.ireturn, 1) := by decide +kernel
theorem dX4_married_0 : decode cX4_married 0 = .ok (.aload_n 0, 1) := by decide +kernel
theorem dX4_married_1 : decode cX4_married 1 = .ok (.getfield 16, 3) := by decide +kernel
theorem dX4_married_4 : decode cX4_married 4 = .ok (.iconst 2, 1) := by decide +kernel
theorem dX4_married_5 : decode cX4_married 5 = .ok (.iaload, 1) := by decide +kernel
theorem dX4_married_6 : decode cX4_married 6 = .ok (.bipush 8, 2) := by decide +kernel
theorem dX4_married_8 : decode cX4_married 8 = .ok (.if_icmp .eq 42, 3) := by decide +kernel
theorem dX4_married_11 : decode cX4_married 11 = .ok (.aload_n 0, 1) := by decide +kernel
theorem dX4_married_12 : decode cX4_married 12 = .ok (.iconst 4, 1) := by decide +kernel
theorem dX4_married_13 : decode cX4_married 13 = .ok (.invokevirtual 61, 3) := by decide +kernel
theorem dX4_married_16 : decode cX4_married 16 = .ok (.ifCond .eq 34, 3) := by decide +kernel
theorem dX4_married_19 : decode cX4_married 19 = .ok (.aload_n 0, 1) := by decide +kernel
theorem dX4_married_20 : decode cX4_married 20 = .ok (.iconst 0, 1) := by decide +kernel
theorem dX4_married_21 : decode cX4_married 21 = .ok (.invokevirtual 65, 3) := by decide +kernel
theorem dX4_married_24 : decode cX4_married 24 = .ok (.ifCond .eq 26, 3) := by decide +kernel
theorem dX4_married_27 : decode cX4_married 27 = .ok (.aload_n 0, 1) := by decide +kernel
theorem dX4_married_28 : decode cX4_married 28 = .ok (.iconst 2, 1) := by decide +kernel
theorem dX4_married_29 : decode cX4_married 29 = .ok (.invokevirtual 65, 3) := by decide +kernel
theorem dX4_married_32 : decode cX4_married 32 = .ok (.ifCond .eq 18, 3) := by decide +kernel
theorem dX4_married_35 : decode cX4_married 35 = .ok (.aload_n 0, 1) := by decide +kernel
theorem dX4_married_36 : decode cX4_married 36 = .ok (.getfield 37, 3) := by decide +kernel
theorem dX4_married_39 : decode cX4_married 39 = .ok (.iconst 0, 1) := by decide +kernel
theorem dX4_married_40 : decode cX4_married 40 = .ok (.iaload, 1) := by decide +kernel
theorem dX4_married_41 : decode cX4_married 41 = .ok (.aload_n 0, 1) := by decide +kernel
theorem dX4_married_42 : decode cX4_married 42 = .ok (.getfield 37, 3) := by decide +kernel
theorem dX4_married_45 : decode cX4_married 45 = .ok (.iconst 2, 1) := by decide +kernel
theorem dX4_married_46 : decode cX4_married 46 = .ok (.iaload, 1) := by decide +kernel
theorem dX4_married_47 : decode cX4_married 47 = .ok (.if_icmp .ne 5, 3) := by decide +kernel
theorem dX4_married_50 : decode cX4_married 50 = .ok (.iconst 0, 1) := by decide +kernel
theorem dX4_married_51 : decode cX4_married 51 = .ok (.ireturn, 1) := by decide +kernel
theorem dX4_married_52 : decode cX4_married 52 = .ok (.aload_n 0, 1) := by decide +kernel
theorem dX4_married_53 : decode cX4_married 53 = .ok (.getfield 16, 3) := by decide +kernel
theorem dX4_married_56 : decode cX4_married 56 = .ok (.bipush 64, 2) := by decide +kernel
theorem dX4_married_58 : decode cX4_married 58 = .ok (.iconst 2, 1) := by decide +kernel
theorem dX4_married_59 : decode cX4_married 59 = .ok (.aload_n 0, 1) := by decide +kernel
theorem dX4_married_60 : decode cX4_married 60 = .ok (.getfield 16, 3) := by decide +kernel
theorem dX4_married_63 : decode cX4_married 63 = .ok (.iconst 2, 1) := by decide +kernel
theorem dX4_married_64 : decode cX4_married 64 = .ok (.iaload, 1) := by decide +kernel
theorem dX4_married_65 : decode cX4_married 65 = .ok (.imul, 1) := by decide +kernel
theorem dX4_married_66 : decode cX4_married 66 = .ok (.iadd, 1) := by decide +kernel
theorem dX4_married_67 : decode cX4_married 67 = .ok (.iconst 2, 1) := by decide +kernel
theorem dX4_married_68 : decode cX4_married 68 = .ok (.aload_n 0, 1) := by decide +kernel
theorem dX4_married_69 : decode cX4_married 69 = .ok (.getfield 37, 3) := by decide +kernel
theorem dX4_married_72 : decode cX4_married 72 = .ok (.iconst 0, 1) := by decide +kernel
theorem dX4_married_73 : decode cX4_married 73 = .ok (.iaload, 1) := by decide +kernel
theorem dX4_married_74 : decode cX4_married 74 = .ok (.imul, 1) := by decide +kernel
theorem dX4_married_75 : decode cX4_married 75 = .ok (.aload_n 0, 1) := by decide +kernel
theorem dX4_married_76 : decode cX4_married 76 = .ok (.getfield 37, 3) := by decide +kernel
theorem dX4_married_79 : decode cX4_married 79 = .ok (.iconst 1, 1) := by decide +kernel
theorem dX4_married_80 : decode cX4_married 80 = .ok (.iaload, 1) := by decide +kernel
theorem dX4_married_81 : decode cX4_married 81 = .ok (.iadd, 1) := by decide +kernel
theorem dX4_married_82 : decode cX4_married 82 = .ok (.iastore, 1) := by decide +kernel
theorem dX4_married_83 : decode cX4_married 83 = .ok (.aload_n 0, 1) := by decide +kernel
theorem dX4_married_84 : decode cX4_married 84 = .ok (.getfield 16, 3) := by decide +kernel
theorem dX4_married_87 : decode cX4_married 87 = .ok (.bipush 64, 2) := by decide +kernel
theorem dX4_married_89 : decode cX4_married 89 = .ok (.iconst 2, 1) := by decide +kernel
theorem dX4_married_90 : decode cX4_married 90 = .ok (.aload_n 0, 1) := by decide +kernel
theorem dX4_married_91 : decode cX4_married 91 = .ok (.getfield 16, 3) := by decide +kernel
theorem dX4_married_94 : decode cX4_married 94 = .ok (.iconst 2, 1) := by decide +kernel
theorem dX4_married_95 : decode cX4_married 95 = .ok (.iaload, 1) := by decide +kernel
theorem dX4_married_96 : decode cX4_married 96 = .ok (.imul, 1) := by decide +kernel
theorem dX4_married_97 : decode cX4_married 97 = .ok (.iadd, 1) := by decide +kernel
theorem dX4_married_98 : decode cX4_married 98 = .ok (.iconst 1, 1) := by decide +kernel
theorem dX4_married_99 : decode cX4_married 99 = .ok (.iadd, 1) := by decide +kernel
theorem dX4_married_100 : decode cX4_married 100 = .ok (.iconst 2, 1) := by decide +kernel
theorem dX4_married_101 : decode cX4_married 101 = .ok (.aload_n 0, 1) := by decide +kernel
theorem dX4_married_102 : decode cX4_married 102 = .ok (.getfield 37, 3) := by decide +kernel
theorem dX4_married_105 : decode cX4_married 105 = .ok (.iconst 2, 1) := by decide +kernel
theorem dX4_married_106 : decode cX4_married 106 = .ok (.iaload, 1) := by decide +kernel
theorem dX4_married_107 : decode cX4_married 107 = .ok (.imul, 1) := by decide +kernel
theorem dX4_married_108 : decode cX4_married 108 = .ok (.aload_n 0, 1) := by decide +kernel
theorem dX4_married_109 : decode cX4_married 109 = .ok (.getfield 37, 3) := by decide +kernel
theorem dX4_married_112 : decode cX4_married 112 = .ok (.iconst 3, 1) := by decide +kernel
theorem dX4_married_113 : decode cX4_married 113 = .ok (.iaload, 1) := by decide +kernel
theorem dX4_married_114 : decode cX4_married 114 = .ok (.iadd, 1) := by decide +kernel
theorem dX4_married_115 : decode cX4_married 115 = .ok (.iastore, 1) := by decide +kernel
theorem dX4_married_116 : decode cX4_married 116 = .ok (.aload_n 0, 1) := by decide +kernel
theorem dX4_married_117 : decode cX4_married 117 = .ok (.getfield 16, 3) := by decide +kernel
theorem dX4_married_120 : decode cX4_married 120 = .ok (.iconst 2, 1) := by decide +kernel
theorem dX4_married_121 : decode cX4_married 121 = .ok (.dup2, 1) := by decide +kernel
theorem dX4_married_122 : decode cX4_married 122 = .ok (.iaload, 1) := by decide +kernel
theorem dX4_married_123 : decode cX4_married 123 = .ok (.iconst 1, 1) := by decide +kernel
theorem dX4_married_124 : decode cX4_married 124 = .ok (.iadd, 1) := by decide +kernel
theorem dX4_married_125 : decode cX4_married 125 = .ok (.iastore, 1) := by decide +kernel
theorem dX4_married_126 : decode cX4_married 126 = .ok (.iconst 1, 1) := by decide +kernel
theorem dX4_married_127 : decode cX4_married 127 = .ok (.ireturn, 1) := by decide +kernel
theorem dX4_pursed_0 : decode cX4_pursed 0 = .ok (.aload_n 0, 1) := by decide +kernel
theorem dX4_pursed_1 : decode cX4_pursed 1 = .ok (.iconst 3, 1) := by decide +kernel
theorem dX4_pursed_2 : decode cX4_pursed 2 = .ok (.invokevirtual 61, 3) := by decide +kernel
theorem dX4_pursed_5 : decode cX4_pursed 5 = .ok (.ifCond .eq 44, 3) := by decide +kernel
theorem dX4_pursed_8 : decode cX4_pursed 8 = .ok (.aload_n 0, 1) := by decide +kernel
theorem dX4_pursed_9 : decode cX4_pursed 9 = .ok (.getfield 37, 3) := by decide +kernel
theorem dX4_pursed_12 : decode cX4_pursed 12 = .ok (.iconst 0, 1) := by decide +kernel
theorem dX4_pursed_13 : decode cX4_pursed 13 = .ok (.iaload, 1) := by decide +kernel
theorem dX4_pursed_14 : decode cX4_pursed 14 = .ok (.bipush 20, 2) := by decide +kernel
theorem dX4_pursed_16 : decode cX4_pursed 16 = .ok (.if_icmp .gt 33, 3) := by decide +kernel
theorem dX4_pursed_19 : decode cX4_pursed 19 = .ok (.aload_n 0, 1) := by decide +kernel
theorem dX4_pursed_20 : decode cX4_pursed 20 = .ok (.getfield 37, 3) := by decide +kernel
theorem dX4_pursed_23 : decode cX4_pursed 23 = .ok (.iconst 1, 1) := by decide +kernel
theorem dX4_pursed_24 : decode cX4_pursed 24 = .ok (.iaload, 1) := by decide +kernel
theorem dX4_pursed_25 : decode cX4_pursed 25 = .ok (.iconst 1, 1) := by decide +kernel
theorem dX4_pursed_26 : decode cX4_pursed 26 = .ok (.bipush 9, 2) := by decide +kernel
theorem dX4_pursed_28 : decode cX4_pursed 28 = .ok (.invokestatic 40, 3) := by decide +kernel
theorem dX4_pursed_31 : decode cX4_pursed 31 = .ok (.ifCond .eq 18, 3) := by decide +kernel
theorem dX4_pursed_34 : decode cX4_pursed 34 = .ok (.aload_n 0, 1) := by decide +kernel
theorem dX4_pursed_35 : decode cX4_pursed 35 = .ok (.getfield 37, 3) := by decide +kernel
theorem dX4_pursed_38 : decode cX4_pursed 38 = .ok (.iconst 2, 1) := by decide +kernel
theorem dX4_pursed_39 : decode cX4_pursed 39 = .ok (.iaload, 1) := by decide +kernel
theorem dX4_pursed_40 : decode cX4_pursed 40 = .ok (.iconst 1, 1) := by decide +kernel
theorem dX4_pursed_41 : decode cX4_pursed 41 = .ok (.bipush 9, 2) := by decide +kernel
theorem dX4_pursed_43 : decode cX4_pursed 43 = .ok (.invokestatic 40, 3) := by decide +kernel
theorem dX4_pursed_46 : decode cX4_pursed 46 = .ok (.ifCond .ne 5, 3) := by decide +kernel
theorem dX4_pursed_49 : decode cX4_pursed 49 = .ok (.iconst 0, 1) := by decide +kernel
theorem dX4_pursed_50 : decode cX4_pursed 50 = .ok (.ireturn, 1) := by decide +kernel
theorem dX4_pursed_51 : decode cX4_pursed 51 = .ok (.aload_n 0, 1) := by decide +kernel
theorem dX4_pursed_52 : decode cX4_pursed 52 = .ok (.getfield 16, 3) := by decide +kernel
theorem dX4_pursed_55 : decode cX4_pursed 55 = .ok (.iconst 5, 1) := by decide +kernel
theorem dX4_pursed_56 : decode cX4_pursed 56 = .ok (.aload_n 0, 1) := by decide +kernel
theorem dX4_pursed_57 : decode cX4_pursed 57 = .ok (.getfield 37, 3) := by decide +kernel
theorem dX4_pursed_60 : decode cX4_pursed 60 = .ok (.iconst 0, 1) := by decide +kernel
theorem dX4_pursed_61 : decode cX4_pursed 61 = .ok (.iaload, 1) := by decide +kernel
theorem dX4_pursed_62 : decode cX4_pursed 62 = .ok (.iastore, 1) := by decide +kernel
theorem dX4_pursed_63 : decode cX4_pursed 63 = .ok (.aload_n 0, 1) := by decide +kernel
theorem dX4_pursed_64 : decode cX4_pursed 64 = .ok (.getfield 16, 3) := by decide +kernel
theorem dX4_pursed_67 : decode cX4_pursed 67 = .ok (.bipush 6, 2) := by decide +kernel
theorem dX4_pursed_69 : decode cX4_pursed 69 = .ok (.aload_n 0, 1) := by decide +kernel
theorem dX4_pursed_70 : decode cX4_pursed 70 = .ok (.getfield 37, 3) := by decide +kernel
theorem dX4_pursed_73 : decode cX4_pursed 73 = .ok (.iconst 1, 1) := by decide +kernel
theorem dX4_pursed_74 : decode cX4_pursed 74 = .ok (.iaload, 1) := by decide +kernel
theorem dX4_pursed_75 : decode cX4_pursed 75 = .ok (.iastore, 1) := by decide +kernel
theorem dX4_pursed_76 : decode cX4_pursed 76 = .ok (.aload_n 0, 1) := by decide +kernel
theorem dX4_pursed_77 : decode cX4_pursed 77 = .ok (.getfield 16, 3) := by decide +kernel
theorem dX4_pursed_80 : decode cX4_pursed 80 = .ok (.bipush 7, 2) := by decide +kernel
theorem dX4_pursed_82 : decode cX4_pursed 82 = .ok (.aload_n 0, 1) := by decide +kernel
theorem dX4_pursed_83 : decode cX4_pursed 83 = .ok (.getfield 37, 3) := by decide +kernel
theorem dX4_pursed_86 : decode cX4_pursed 86 = .ok (.iconst 2, 1) := by decide +kernel
theorem dX4_pursed_87 : decode cX4_pursed 87 = .ok (.iaload, 1) := by decide +kernel
theorem dX4_pursed_88 : decode cX4_pursed 88 = .ok (.iastore, 1) := by decide +kernel
theorem dX4_pursed_89 : decode cX4_pursed 89 = .ok (.iconst 1, 1) := by decide +kernel
theorem dX4_pursed_90 : decode cX4_pursed 90 = .ok (.ireturn, 1) := by decide +kernel
theorem dX4_one_0 : decode cX4_one 0 = .ok (.aload_n 0, 1) := by decide +kernel
theorem dX4_one_1 : decode cX4_one 1 = .ok (.iconst 1, 1) := by decide +kernel
theorem dX4_one_2 : decode cX4_one 2 = .ok (.invokevirtual 61, 3) := by decide +kernel
theorem dX4_one_5 : decode cX4_one 5 = .ok (.ifCond .eq 17, 3) := by decide +kernel
theorem dX4_one_8 : decode cX4_one 8 = .ok (.aload_n 0, 1) := by decide +kernel
theorem dX4_one_9 : decode cX4_one 9 = .ok (.getfield 37, 3) := by decide +kernel
theorem dX4_one_12 : decode cX4_one 12 = .ok (.iconst 0, 1) := by decide +kernel
theorem dX4_one_13 : decode cX4_one 13 = .ok (.iaload, 1) := by decide +kernel
theorem dX4_one_14 : decode cX4_one 14 = .ok (.iload_n 2, 1) := by decide +kernel
theorem dX4_one_15 : decode cX4_one 15 = .ok (.iload_n 3, 1) := by decide +kernel
theorem dX4_one_16 : decode cX4_one 16 = .ok (.invokestatic 40, 3) := by decide +kernel
theorem dX4_one_19 : decode cX4_one 19 = .ok (.ifCond .ne 5, 3) := by decide +kernel
theorem dX4_one_22 : decode cX4_one 22 = .ok (.iconst 0, 1) := by decide +kernel
theorem dX4_one_23 : decode cX4_one 23 = .ok (.ireturn, 1) := by decide +kernel
theorem dX4_one_24 : decode cX4_one 24 = .ok (.aload_n 0, 1) := by decide +kernel
theorem dX4_one_25 : decode cX4_one 25 = .ok (.getfield 16, 3) := by decide +kernel
theorem dX4_one_28 : decode cX4_one 28 = .ok (.iload_n 1, 1) := by decide +kernel
theorem dX4_one_29 : decode cX4_one 29 = .ok (.aload_n 0, 1) := by decide +kernel
theorem dX4_one_30 : decode cX4_one 30 = .ok (.getfield 37, 3) := by decide +kernel
theorem dX4_one_33 : decode cX4_one 33 = .ok (.iconst 0, 1) := by decide +kernel
theorem dX4_one_34 : decode cX4_one 34 = .ok (.iaload, 1) := by decide +kernel
theorem dX4_one_35 : decode cX4_one 35 = .ok (.iastore, 1) := by decide +kernel
theorem dX4_one_36 : decode cX4_one 36 = .ok (.iconst 1, 1) := by decide +kernel
theorem dX4_one_37 : decode cX4_one 37 = .ok (.ireturn, 1) := by decide +kernel
theorem dX4_item_0 : decode cX4_item 0 = .ok (.aload_n 0, 1) := by decide +kernel
theorem dX4_item_1 : decode cX4_item 1 = .ok (.aload_n 0, 1) := by decide +kernel
theorem dX4_item_2 : decode cX4_item 2 = .ok (.getfield 50, 3) := by decide +kernel
theorem dX4_item_5 : decode cX4_item 5 = .ok (.invokevirtual 53, 3) := by decide +kernel
theorem dX4_item_8 : decode cX4_item 8 = .ok (.istore_n 1, 1) := by decide +kernel
theorem dX4_item_9 : decode cX4_item 9 = .ok (.aload_n 0, 1) := by decide +kernel
theorem dX4_item_10 : decode cX4_item 10 = .ok (.dup, 1) := by decide +kernel
theorem dX4_item_11 : decode cX4_item 11 = .ok (.getfield 50, 3) := by decide +kernel
theorem dX4_item_14 : decode cX4_item 14 = .ok (.iconst 1, 1) := by decide +kernel
theorem dX4_item_15 : decode cX4_item 15 = .ok (.iadd, 1) := by decide +kernel
theorem dX4_item_16 : decode cX4_item 16 = .ok (.putfield 50, 3) := by decide +kernel
theorem dX4_item_19 : decode cX4_item 19 = .ok (.iload_n 1, 1) := by decide +kernel
theorem dX4_item_20 : decode cX4_item 20 = .ok (.tableswitch 135 99 117 #[102, 135, 135, 135, 135, 135, 135, 97, 120, 135, 125, 111, 135, 92, 135, 135, 135, 135, 130], 92) := by decide +kernel
theorem dX4_item_112 : decode cX4_item 112 = .ok (.aload_n 0, 1) := by decide +kernel
theorem dX4_item_113 : decode cX4_item 113 = .ok (.invokevirtual 68, 3) := by decide +kernel
theorem dX4_item_116 : decode cX4_item 116 = .ok (.ireturn, 1) := by decide +kernel
theorem dX4_item_117 : decode cX4_item 117 = .ok (.aload_n 0, 1) := by decide +kernel
theorem dX4_item_118 : decode cX4_item 118 = .ok (.invokevirtual 71, 3) := by decide +kernel
theorem dX4_item_121 : decode cX4_item 121 = .ok (.ireturn, 1) := by decide +kernel
theorem dX4_item_122 : decode cX4_item 122 = .ok (.aload_n 0, 1) := by decide +kernel
theorem dX4_item_123 : decode cX4_item 123 = .ok (.iconst 3, 1) := by decide +kernel
theorem dX4_item_124 : decode cX4_item 124 = .ok (.iconst 1, 1) := by decide +kernel
theorem dX4_item_125 : decode cX4_item 125 = .ok (.bipush 8, 2) := by decide +kernel
theorem dX4_item_127 : decode cX4_item 127 = .ok (.invokevirtual 74, 3) := by decide +kernel
theorem dX4_item_130 : decode cX4_item 130 = .ok (.ireturn, 1) := by decide +kernel
theorem dX4_item_131 : decode cX4_item 131 = .ok (.aload_n 0, 1) := by decide +kernel
theorem dX4_item_132 : decode cX4_item 132 = .ok (.iconst 4, 1) := by decide +kernel
theorem dX4_item_133 : decode cX4_item 133 = .ok (.iconst 0, 1) := by decide +kernel
theorem dX4_item_134 : decode cX4_item 134 = .ok (.bipush 8, 2) := by decide +kernel
theorem dX4_item_136 : decode cX4_item 136 = .ok (.invokevirtual 74, 3) := by decide +kernel
theorem dX4_item_139 : decode cX4_item 139 = .ok (.ireturn, 1) := by decide +kernel
theorem dX4_item_140 : decode cX4_item 140 = .ok (.aload_n 0, 1) := by decide +kernel
theorem dX4_item_141 : decode cX4_item 141 = .ok (.invokevirtual 77, 3) := by decide +kernel
theorem dX4_item_144 : decode cX4_item 144 = .ok (.ireturn, 1) := by decide +kernel
theorem dX4_item_145 : decode cX4_item 145 = .ok (.aload_n 0, 1) := by decide +kernel
theorem dX4_item_146 : decode cX4_item 146 = .ok (.invokevirtual 80, 3) := by decide +kernel
theorem dX4_item_149 : decode cX4_item 149 = .ok (.ireturn, 1) := by decide +kernel
theorem dX4_item_150 : decode cX4_item 150 = .ok (.aload_n 0, 1) := by decide +kernel
theorem dX4_item_151 : decode cX4_item 151 = .ok (.invokevirtual 83, 3) := by decide +kernel
theorem dX4_item_154 : decode cX4_item 154 = .ok (.ireturn, 1) := by decide +kernel
theorem dX4_item_155 : decode cX4_item 155 = .ok (.iconst 0, 1) := by decide +kernel
theorem dX4_item_156 : decode cX4_item 156 = .ok (.ireturn, 1) := by decide +kernel
theorem dX4_reads_0 : decode cX4_reads 0 = .ok (.iconst 0, 1) := by decide +kernel
theorem dX4_reads_1 : decode cX4_reads 1 = .ok (.istore_n 1, 1) := by decide +kernel
theorem dX4_reads_2 : decode cX4_reads 2 = .ok (.iload_n 1, 1) := by decide +kernel
theorem dX4_reads_3 : decode cX4_reads 3 = .ok (.bipush 80, 2) := by decide +kernel
theorem dX4_reads_5 : decode cX4_reads 5 = .ok (.if_icmp .ge 16, 3) := by decide +kernel
theorem dX4_reads_8 : decode cX4_reads 8 = .ok (.aload_n 0, 1) := by decide +kernel
theorem dX4_reads_9 : decode cX4_reads 9 = .ok (.getfield 16, 3) := by decide +kernel
theorem dX4_reads_12 : decode cX4_reads 12 = .ok (.iload_n 1, 1) := by decide +kernel
theorem dX4_reads_13 : decode cX4_reads 13 = .ok (.iconst 0, 1) := by decide +kernel
theorem dX4_reads_14 : decode cX4_reads 14 = .ok (.iastore, 1) := by decide +kernel
theorem dX4_reads_15 : decode cX4_reads 15 = .ok (.iinc 1 1, 3) := by decide +kernel
theorem dX4_reads_18 : decode cX4_reads 18 = .ok (.goto (-16), 3) := by decide +kernel
theorem dX4_reads_21 : decode cX4_reads 21 = .ok (.aload_n 0, 1) := by decide +kernel
theorem dX4_reads_22 : decode cX4_reads 22 = .ok (.getfield 16, 3) := by decide +kernel
theorem dX4_reads_25 : decode cX4_reads 25 = .ok (.iconst 3, 1) := by decide +kernel
theorem dX4_reads_26 : decode cX4_reads 26 = .ok (.iconst 3, 1) := by decide +kernel
theorem dX4_reads_27 : decode cX4_reads 27 = .ok (.iastore, 1) := by decide +kernel
theorem dX4_reads_28 : decode cX4_reads 28 = .ok (.aload_n 0, 1) := by decide +kernel
theorem dX4_reads_29 : decode cX4_reads 29 = .ok (.getfield 16, 3) := by decide +kernel
theorem dX4_reads_32 : decode cX4_reads 32 = .ok (.iconst 4, 1) := by decide +kernel
theorem dX4_reads_33 : decode cX4_reads 33 = .ok (.iconst 2, 1) := by decide +kernel
theorem dX4_reads_34 : decode cX4_reads 34 = .ok (.iastore, 1) := by decide +kernel
theorem dX4_reads_35 : decode cX4_reads 35 = .ok (.aload_n 0, 1) := by decide +kernel
theorem dX4_reads_36 : decode cX4_reads 36 = .ok (.getfield 16, 3) := by decide +kernel
theorem dX4_reads_39 : decode cX4_reads 39 = .ok (.iconst 5, 1) := by decide +kernel
theorem dX4_reads_40 : decode cX4_reads 40 = .ok (.bipush 9, 2) := by decide +kernel
theorem dX4_reads_42 : decode cX4_reads 42 = .ok (.iastore, 1) := by decide +kernel
theorem dX4_reads_43 : decode cX4_reads 43 = .ok (.aload_n 0, 1) := by decide +kernel
theorem dX4_reads_44 : decode cX4_reads 44 = .ok (.getfield 16, 3) := by decide +kernel
theorem dX4_reads_47 : decode cX4_reads 47 = .ok (.bipush 6, 2) := by decide +kernel
theorem dX4_reads_49 : decode cX4_reads 49 = .ok (.iconst 1, 1) := by decide +kernel
theorem dX4_reads_50 : decode cX4_reads 50 = .ok (.iastore, 1) := by decide +kernel
theorem dX4_reads_51 : decode cX4_reads 51 = .ok (.aload_n 0, 1) := by decide +kernel
theorem dX4_reads_52 : decode cX4_reads 52 = .ok (.getfield 16, 3) := by decide +kernel
theorem dX4_reads_55 : decode cX4_reads 55 = .ok (.bipush 7, 2) := by decide +kernel
theorem dX4_reads_57 : decode cX4_reads 57 = .ok (.iconst 1, 1) := by decide +kernel
theorem dX4_reads_58 : decode cX4_reads 58 = .ok (.iastore, 1) := by decide +kernel
theorem dX4_reads_59 : decode cX4_reads 59 = .ok (.aload_n 0, 1) := by decide +kernel
theorem dX4_reads_60 : decode cX4_reads 60 = .ok (.iconst 0, 1) := by decide +kernel
theorem dX4_reads_61 : decode cX4_reads 61 = .ok (.putfield 50, 3) := by decide +kernel
theorem dX4_reads_64 : decode cX4_reads 64 = .ok (.aload_n 0, 1) := by decide +kernel
theorem dX4_reads_65 : decode cX4_reads 65 = .ok (.getfield 50, 3) := by decide +kernel
theorem dX4_reads_68 : decode cX4_reads 68 = .ok (.aload_n 0, 1) := by decide +kernel
theorem dX4_reads_69 : decode cX4_reads 69 = .ok (.getfield 44, 3) := by decide +kernel
theorem dX4_reads_72 : decode cX4_reads 72 = .ok (.if_icmp .ge 20, 3) := by decide +kernel
theorem dX4_reads_75 : decode cX4_reads 75 = .ok (.aload_n 0, 1) := by decide +kernel
theorem dX4_reads_76 : decode cX4_reads 76 = .ok (.getfield 50, 3) := by decide +kernel
theorem dX4_reads_79 : decode cX4_reads 79 = .ok (.istore_n 1, 1) := by decide +kernel
theorem dX4_reads_80 : decode cX4_reads 80 = .ok (.aload_n 0, 1) := by decide +kernel
theorem dX4_reads_81 : decode cX4_reads 81 = .ok (.invokevirtual 86, 3) := by decide +kernel
theorem dX4_reads_84 : decode cX4_reads 84 = .ok (.ifCond .ne 5, 3) := by decide +kernel
theorem dX4_reads_87 : decode cX4_reads 87 = .ok (.iload_n 1, 1) := by decide +kernel
theorem dX4_reads_88 : decode cX4_reads 88 = .ok (.ireturn, 1) := by decide +kernel
theorem dX4_reads_89 : decode cX4_reads 89 = .ok (.goto (-25), 3) := by decide +kernel
theorem dX4_reads_92 : decode cX4_reads 92 = .ok (.bipush (-4), 2) := by decide +kernel
theorem dX4_reads_94 : decode cX4_reads 94 = .ok (.ireturn, 1) := by decide +kernel
theorem dX4_fault_0 : decode cX4_fault 0 = .ok (.aload_n 0, 1) := by decide +kernel
theorem dX4_fault_1 : decode cX4_fault 1 = .ok (.invokevirtual 89, 3) := by decide +kernel
theorem dX4_fault_4 : decode cX4_fault 4 = .ok (.ireturn, 1) := by decide +kernel
theorem dX4_lay_0 : decode cX4_lay 0 = .ok (.aload_n 0, 1) := by decide +kernel
theorem dX4_lay_1 : decode cX4_lay 1 = .ok (.invokevirtual 89, 3) := by decide +kernel
theorem dX4_lay_4 : decode cX4_lay 4 = .ok (.bipush (-4), 2) := by decide +kernel
theorem dX4_lay_6 : decode cX4_lay 6 = .ok (.if_icmp .ne 12, 3) := by decide +kernel
theorem dX4_lay_9 : decode cX4_lay 9 = .ok (.aload_n 0, 1) := by decide +kernel
theorem dX4_lay_10 : decode cX4_lay 10 = .ok (.getfield 16, 3) := by decide +kernel
theorem dX4_lay_13 : decode cX4_lay 13 = .ok (.iconst 0, 1) := by decide +kernel
theorem dX4_lay_14 : decode cX4_lay 14 = .ok (.iaload, 1) := by decide +kernel
theorem dX4_lay_15 : decode cX4_lay 15 = .ok (.ifCond .ne 6, 3) := by decide +kernel
theorem dX4_lay_18 : decode cX4_lay 18 = .ok (.bipush (-2), 2) := by decide +kernel
theorem dX4_lay_20 : decode cX4_lay 20 = .ok (.ireturn, 1) := by decide +kernel
theorem dX4_lay_21 : decode cX4_lay 21 = .ok (.iconst 0, 1) := by decide +kernel
theorem dX4_lay_22 : decode cX4_lay 22 = .ok (.istore_n 1, 1) := by decide +kernel
theorem dX4_lay_23 : decode cX4_lay 23 = .ok (.iload_n 1, 1) := by decide +kernel
theorem dX4_lay_24 : decode cX4_lay 24 = .ok (.bipush 80, 2) := by decide +kernel
theorem dX4_lay_26 : decode cX4_lay 26 = .ok (.if_icmp .ge 21, 3) := by decide +kernel
theorem dX4_lay_29 : decode cX4_lay 29 = .ok (.aload_n 0, 1) := by decide +kernel
theorem dX4_lay_30 : decode cX4_lay 30 = .ok (.getfield 13, 3) := by decide +kernel
theorem dX4_lay_33 : decode cX4_lay 33 = .ok (.iload_n 1, 1) := by decide +kernel
theorem dX4_lay_34 : decode cX4_lay 34 = .ok (.aload_n 0, 1) := by decide +kernel
theorem dX4_lay_35 : decode cX4_lay 35 = .ok (.getfield 16, 3) := by decide +kernel
theorem dX4_lay_38 : decode cX4_lay 38 = .ok (.iload_n 1, 1) := by decide +kernel
theorem dX4_lay_39 : decode cX4_lay 39 = .ok (.iaload, 1) := by decide +kernel
theorem dX4_lay_40 : decode cX4_lay 40 = .ok (.iastore, 1) := by decide +kernel
theorem dX4_lay_41 : decode cX4_lay 41 = .ok (.iinc 1 1, 3) := by decide +kernel
theorem dX4_lay_44 : decode cX4_lay 44 = .ok (.goto (-21), 3) := by decide +kernel
theorem dX4_lay_47 : decode cX4_lay 47 = .ok (.iconst 0, 1) := by decide +kernel
theorem dX4_lay_48 : decode cX4_lay 48 = .ok (.istore_n 1, 1) := by decide +kernel
theorem dX4_lay_49 : decode cX4_lay 49 = .ok (.iload_n 1, 1) := by decide +kernel
theorem dX4_lay_50 : decode cX4_lay 50 = .ok (.bipush 16, 2) := by decide +kernel
theorem dX4_lay_52 : decode cX4_lay 52 = .ok (.if_icmp .ge 40, 3) := by decide +kernel
theorem dX4_lay_55 : decode cX4_lay 55 = .ok (.aload_n 0, 1) := by decide +kernel
theorem dX4_lay_56 : decode cX4_lay 56 = .ok (.getfield 19, 3) := by decide +kernel
theorem dX4_lay_59 : decode cX4_lay 59 = .ok (.iload_n 1, 1) := by decide +kernel
theorem dX4_lay_60 : decode cX4_lay 60 = .ok (.iload_n 1, 1) := by decide +kernel
theorem dX4_lay_61 : decode cX4_lay 61 = .ok (.iconst 1, 1) := by decide +kernel
theorem dX4_lay_62 : decode cX4_lay 62 = .ok (.bipush 10, 2) := by decide +kernel
theorem dX4_lay_64 : decode cX4_lay 64 = .ok (.invokestatic 40, 3) := by decide +kernel
theorem dX4_lay_67 : decode cX4_lay 67 = .ok (.ifCond .eq 17, 3) := by decide +kernel
theorem dX4_lay_70 : decode cX4_lay 70 = .ok (.aload_n 0, 1) := by decide +kernel
theorem dX4_lay_71 : decode cX4_lay 71 = .ok (.getfield 13, 3) := by decide +kernel
theorem dX4_lay_74 : decode cX4_lay 74 = .ok (.bipush 18, 2) := by decide +kernel
theorem dX4_lay_76 : decode cX4_lay 76 = .ok (.iload_n 1, 1) := by decide +kernel
theorem dX4_lay_77 : decode cX4_lay 77 = .ok (.iadd, 1) := by decide +kernel
theorem dX4_lay_78 : decode cX4_lay 78 = .ok (.iconst 1, 1) := by decide +kernel
theorem dX4_lay_79 : decode cX4_lay 79 = .ok (.isub, 1) := by decide +kernel
theorem dX4_lay_80 : decode cX4_lay 80 = .ok (.iaload, 1) := by decide +kernel
theorem dX4_lay_81 : decode cX4_lay 81 = .ok (.goto 4, 3) := by decide +kernel
theorem dX4_lay_84 : decode cX4_lay 84 = .ok (.iconst 0, 1) := by decide +kernel
theorem dX4_lay_85 : decode cX4_lay 85 = .ok (.iastore, 1) := by decide +kernel
theorem dX4_lay_86 : decode cX4_lay 86 = .ok (.iinc 1 1, 3) := by decide +kernel
theorem dX4_lay_89 : decode cX4_lay 89 = .ok (.goto (-40), 3) := by decide +kernel
theorem dX4_lay_92 : decode cX4_lay 92 = .ok (.aload_n 0, 1) := by decide +kernel
theorem dX4_lay_93 : decode cX4_lay 93 = .ok (.iconst 0, 1) := by decide +kernel
theorem dX4_lay_94 : decode cX4_lay 94 = .ok (.putfield 93, 3) := by decide +kernel
theorem dX4_lay_97 : decode cX4_lay 97 = .ok (.aload_n 0, 1) := by decide +kernel
theorem dX4_lay_98 : decode cX4_lay 98 = .ok (.iconst 0, 1) := by decide +kernel
theorem dX4_lay_99 : decode cX4_lay 99 = .ok (.putfield 96, 3) := by decide +kernel
theorem dX4_lay_102 : decode cX4_lay 102 = .ok (.aload_n 0, 1) := by decide +kernel
theorem dX4_lay_103 : decode cX4_lay 103 = .ok (.getfield 13, 3) := by decide +kernel
theorem dX4_lay_106 : decode cX4_lay 106 = .ok (.iconst 0, 1) := by decide +kernel
theorem dX4_lay_107 : decode cX4_lay 107 = .ok (.iaload, 1) := by decide +kernel
theorem dX4_lay_108 : decode cX4_lay 108 = .ok (.ireturn, 1) := by decide +kernel
theorem dX4_awake_0 : decode cX4_awake 0 = .ok (.aload_n 0, 1) := by decide +kernel
theorem dX4_awake_1 : decode cX4_awake 1 = .ok (.getfield 19, 3) := by decide +kernel
theorem dX4_awake_4 : decode cX4_awake 4 = .ok (.iconst 0, 1) := by decide +kernel
theorem dX4_awake_5 : decode cX4_awake 5 = .ok (.iaload, 1) := by decide +kernel
theorem dX4_awake_6 : decode cX4_awake 6 = .ok (.iconst 2, 1) := by decide +kernel
theorem dX4_awake_7 : decode cX4_awake 7 = .ok (.irem, 1) := by decide +kernel
theorem dX4_awake_8 : decode cX4_awake 8 = .ok (.ireturn, 1) := by decide +kernel
theorem dX4_half_0 : decode cX4_half 0 = .ok (.aload_n 0, 1) := by decide +kernel
theorem dX4_half_1 : decode cX4_half 1 = .ok (.iload_n 1, 1) := by decide +kernel
theorem dX4_half_2 : decode cX4_half 2 = .ok (.invokevirtual 99, 3) := by decide +kernel
theorem dX4_half_5 : decode cX4_half 5 = .ok (.ifCond .eq 21, 3) := by decide +kernel
theorem dX4_half_8 : decode cX4_half 8 = .ok (.iload_n 2, 1) := by decide +kernel
theorem dX4_half_9 : decode cX4_half 9 = .ok (.iconst 0, 1) := by decide +kernel
theorem dX4_half_10 : decode cX4_half 10 = .ok (.iconst 1, 1) := by decide +kernel
theorem dX4_half_11 : decode cX4_half 11 = .ok (.invokestatic 40, 3) := by decide +kernel
theorem dX4_half_14 : decode cX4_half 14 = .ok (.ifCond .eq 12, 3) := by decide +kernel
theorem dX4_half_17 : decode cX4_half 17 = .ok (.iload_n 3, 1) := by decide +kernel
theorem dX4_half_18 : decode cX4_half 18 = .ok (.iconst 0, 1) := by decide +kernel
theorem dX4_half_19 : decode cX4_half 19 = .ok (.iconst 2, 1) := by decide +kernel
theorem dX4_half_20 : decode cX4_half 20 = .ok (.invokestatic 40, 3) := by decide +kernel
theorem dX4_half_23 : decode cX4_half 23 = .ok (.ifCond .ne 5, 3) := by decide +kernel
theorem dX4_half_26 : decode cX4_half 26 = .ok (.iconst (-1), 1) := by decide +kernel
theorem dX4_half_27 : decode cX4_half 27 = .ok (.ireturn, 1) := by decide +kernel
theorem dX4_half_28 : decode cX4_half 28 = .ok (.iload_n 3, 1) := by decide +kernel
theorem dX4_half_29 : decode cX4_half 29 = .ok (.ifCond .ne 19, 3) := by decide +kernel
theorem dX4_half_32 : decode cX4_half 32 = .ok (.aload_n 0, 1) := by decide +kernel
theorem dX4_half_33 : decode cX4_half 33 = .ok (.getfield 13, 3) := by decide +kernel
theorem dX4_half_36 : decode cX4_half 36 = .ok (.bipush 8, 2) := by decide +kernel
theorem dX4_half_38 : decode cX4_half 38 = .ok (.iconst 2, 1) := by decide +kernel
theorem dX4_half_39 : decode cX4_half 39 = .ok (.iload_n 1, 1) := by decide +kernel
theorem dX4_half_40 : decode cX4_half 40 = .ok (.imul, 1) := by decide +kernel
theorem dX4_half_41 : decode cX4_half 41 = .ok (.iadd, 1) := by decide +kernel
theorem dX4_half_42 : decode cX4_half 42 = .ok (.iload_n 2, 1) := by decide +kernel
theorem dX4_half_43 : decode cX4_half 43 = .ok (.iadd, 1) := by decide +kernel
theorem dX4_half_44 : decode cX4_half 44 = .ok (.iaload, 1) := by decide +kernel
theorem dX4_half_45 : decode cX4_half 45 = .ok (.goto 44, 3) := by decide +kernel
theorem dX4_half_48 : decode cX4_half 48 = .ok (.iload_n 3, 1) := by decide +kernel
theorem dX4_half_49 : decode cX4_half 49 = .ok (.iconst 1, 1) := by decide +kernel
theorem dX4_half_50 : decode cX4_half 50 = .ok (.if_icmp .ne 18, 3) := by decide +kernel
theorem dX4_half_53 : decode cX4_half 53 = .ok (.aload_n 0, 1) := by decide +kernel
theorem dX4_half_54 : decode cX4_half 54 = .ok (.getfield 19, 3) := by decide +kernel
theorem dX4_half_57 : decode cX4_half 57 = .ok (.iconst 1, 1) := by decide +kernel
theorem dX4_half_58 : decode cX4_half 58 = .ok (.iconst 2, 1) := by decide +kernel
theorem dX4_half_59 : decode cX4_half 59 = .ok (.iload_n 1, 1) := by decide +kernel
theorem dX4_half_60 : decode cX4_half 60 = .ok (.imul, 1) := by decide +kernel
theorem dX4_half_61 : decode cX4_half 61 = .ok (.iadd, 1) := by decide +kernel
theorem dX4_half_62 : decode cX4_half 62 = .ok (.iload_n 2, 1) := by decide +kernel
theorem dX4_half_63 : decode cX4_half 63 = .ok (.iadd, 1) := by decide +kernel
theorem dX4_half_64 : decode cX4_half 64 = .ok (.iaload, 1) := by decide +kernel
theorem dX4_half_65 : decode cX4_half 65 = .ok (.goto 24, 3) := by decide +kernel
theorem dX4_half_68 : decode cX4_half 68 = .ok (.iload_n 2, 1) := by decide +kernel
theorem dX4_half_69 : decode cX4_half 69 = .ok (.aload_n 0, 1) := by decide +kernel
theorem dX4_half_70 : decode cX4_half 70 = .ok (.invokevirtual 102, 3) := by decide +kernel
theorem dX4_half_73 : decode cX4_half 73 = .ok (.if_icmp .ne 7, 3) := by decide +kernel
theorem dX4_half_76 : decode cX4_half 76 = .ok (.iconst 0, 1) := by decide +kernel
theorem dX4_half_77 : decode cX4_half 77 = .ok (.goto 12, 3) := by decide +kernel
theorem dX4_half_80 : decode cX4_half 80 = .ok (.aload_n 0, 1) := by decide +kernel
theorem dX4_half_81 : decode cX4_half 81 = .ok (.getfield 19, 3) := by decide +kernel
theorem dX4_half_84 : decode cX4_half 84 = .ok (.bipush 11, 2) := by decide +kernel
theorem dX4_half_86 : decode cX4_half 86 = .ok (.iload_n 1, 1) := by decide +kernel
theorem dX4_half_87 : decode cX4_half 87 = .ok (.iadd, 1) := by decide +kernel
theorem dX4_half_88 : decode cX4_half 88 = .ok (.iaload, 1) := by decide +kernel
theorem dX4_half_89 : decode cX4_half 89 = .ok (.ireturn, 1) := by decide +kernel
theorem dX4_see_0 : decode cX4_see 0 = .ok (.aload_n 0, 1) := by decide +kernel
theorem dX4_see_1 : decode cX4_see 1 = .ok (.iload_n 1, 1) := by decide +kernel
theorem dX4_see_2 : decode cX4_see 2 = .ok (.invokevirtual 99, 3) := by decide +kernel
theorem dX4_see_5 : decode cX4_see 5 = .ok (.ifCond .eq 13, 3) := by decide +kernel
theorem dX4_see_8 : decode cX4_see 8 = .ok (.iload_n 2, 1) := by decide +kernel
theorem dX4_see_9 : decode cX4_see 9 = .ok (.iconst 0, 1) := by decide +kernel
theorem dX4_see_10 : decode cX4_see 10 = .ok (.bipush 7, 2) := by decide +kernel
theorem dX4_see_12 : decode cX4_see 12 = .ok (.invokestatic 40, 3) := by decide +kernel
theorem dX4_see_15 : decode cX4_see 15 = .ok (.ifCond .ne 5, 3) := by decide +kernel
theorem dX4_see_18 : decode cX4_see 18 = .ok (.iconst (-1), 1) := by decide +kernel
theorem dX4_see_19 : decode cX4_see 19 = .ok (.ireturn, 1) := by decide +kernel
theorem dX4_see_20 : decode cX4_see 20 = .ok (.aload_n 0, 1) := by decide +kernel
theorem dX4_see_21 : decode cX4_see 21 = .ok (.getfield 19, 3) := by decide +kernel
theorem dX4_see_24 : decode cX4_see 24 = .ok (.iconst 1, 1) := by decide +kernel
theorem dX4_see_25 : decode cX4_see 25 = .ok (.iconst 2, 1) := by decide +kernel
theorem dX4_see_26 : decode cX4_see 26 = .ok (.iload_n 1, 1) := by decide +kernel
theorem dX4_see_27 : decode cX4_see 27 = .ok (.imul, 1) := by decide +kernel
theorem dX4_see_28 : decode cX4_see 28 = .ok (.iadd, 1) := by decide +kernel
theorem dX4_see_29 : decode cX4_see 29 = .ok (.aload_n 0, 1) := by decide +kernel
theorem dX4_see_30 : decode cX4_see 30 = .ok (.invokevirtual 102, 3) := by decide +kernel
theorem dX4_see_33 : decode cX4_see 33 = .ok (.iadd, 1) := by decide +kernel
theorem dX4_see_34 : decode cX4_see 34 = .ok (.dup2, 1) := by decide +kernel
theorem dX4_see_35 : decode cX4_see 35 = .ok (.iaload, 1) := by decide +kernel
theorem dX4_see_36 : decode cX4_see 36 = .ok (.iconst 1, 1) := by decide +kernel
theorem dX4_see_37 : decode cX4_see 37 = .ok (.iload_n 2, 1) := by decide +kernel
theorem dX4_see_38 : decode cX4_see 38 = .ok (.ishl, 1) := by decide +kernel
theorem dX4_see_39 : decode cX4_see 39 = .ok (.ior, 1) := by decide +kernel
theorem dX4_see_40 : decode cX4_see 40 = .ok (.iastore, 1) := by decide +kernel
theorem dX4_see_41 : decode cX4_see 41 = .ok (.aload_n 0, 1) := by decide +kernel
theorem dX4_see_42 : decode cX4_see 42 = .ok (.getfield 19, 3) := by decide +kernel
theorem dX4_see_45 : decode cX4_see 45 = .ok (.iconst 1, 1) := by decide +kernel
theorem dX4_see_46 : decode cX4_see 46 = .ok (.iconst 2, 1) := by decide +kernel
theorem dX4_see_47 : decode cX4_see 47 = .ok (.iload_n 1, 1) := by decide +kernel
theorem dX4_see_48 : decode cX4_see 48 = .ok (.imul, 1) := by decide +kernel
theorem dX4_see_49 : decode cX4_see 49 = .ok (.iadd, 1) := by decide +kernel
theorem dX4_see_50 : decode cX4_see 50 = .ok (.aload_n 0, 1) := by decide +kernel
theorem dX4_see_51 : decode cX4_see 51 = .ok (.invokevirtual 102, 3) := by decide +kernel
theorem dX4_see_54 : decode cX4_see 54 = .ok (.iadd, 1) := by decide +kernel
theorem dX4_see_55 : decode cX4_see 55 = .ok (.iaload, 1) := by decide +kernel
theorem dX4_see_56 : decode cX4_see 56 = .ok (.ireturn, 1) := by decide +kernel
theorem dX4_note_0 : decode cX4_note 0 = .ok (.aload_n 0, 1) := by decide +kernel
theorem dX4_note_1 : decode cX4_note 1 = .ok (.iload_n 1, 1) := by decide +kernel
theorem dX4_note_2 : decode cX4_note 2 = .ok (.invokevirtual 99, 3) := by decide +kernel
theorem dX4_note_5 : decode cX4_note 5 = .ok (.ifCond .eq 13, 3) := by decide +kernel
theorem dX4_note_8 : decode cX4_note 8 = .ok (.iload_n 2, 1) := by decide +kernel
theorem dX4_note_9 : decode cX4_note 9 = .ok (.iconst 0, 1) := by decide +kernel
theorem dX4_note_10 : decode cX4_note 10 = .ok (.bipush 7, 2) := by decide +kernel
theorem dX4_note_12 : decode cX4_note 12 = .ok (.invokestatic 40, 3) := by decide +kernel
theorem dX4_note_15 : decode cX4_note 15 = .ok (.ifCond .ne 5, 3) := by decide +kernel
theorem dX4_note_18 : decode cX4_note 18 = .ok (.iconst (-1), 1) := by decide +kernel
theorem dX4_note_19 : decode cX4_note 19 = .ok (.ireturn, 1) := by decide +kernel
theorem dX4_note_20 : decode cX4_note 20 = .ok (.aload_n 0, 1) := by decide +kernel
theorem dX4_note_21 : decode cX4_note 21 = .ok (.getfield 19, 3) := by decide +kernel
theorem dX4_note_24 : decode cX4_note 24 = .ok (.iconst 1, 1) := by decide +kernel
theorem dX4_note_25 : decode cX4_note 25 = .ok (.iconst 2, 1) := by decide +kernel
theorem dX4_note_26 : decode cX4_note 26 = .ok (.iload_n 1, 1) := by decide +kernel
theorem dX4_note_27 : decode cX4_note 27 = .ok (.imul, 1) := by decide +kernel
theorem dX4_note_28 : decode cX4_note 28 = .ok (.iadd, 1) := by decide +kernel
theorem dX4_note_29 : decode cX4_note 29 = .ok (.aload_n 0, 1) := by decide +kernel
theorem dX4_note_30 : decode cX4_note 30 = .ok (.invokevirtual 102, 3) := by decide +kernel
theorem dX4_note_33 : decode cX4_note 33 = .ok (.iadd, 1) := by decide +kernel
theorem dX4_note_34 : decode cX4_note 34 = .ok (.iaload, 1) := by decide +kernel
theorem dX4_note_35 : decode cX4_note 35 = .ok (.iload_n 2, 1) := by decide +kernel
theorem dX4_note_36 : decode cX4_note 36 = .ok (.ishr, 1) := by decide +kernel
theorem dX4_note_37 : decode cX4_note 37 = .ok (.iconst 1, 1) := by decide +kernel
theorem dX4_note_38 : decode cX4_note 38 = .ok (.iand, 1) := by decide +kernel
theorem dX4_note_39 : decode cX4_note 39 = .ok (.ifCond .ne 6, 3) := by decide +kernel
theorem dX4_note_42 : decode cX4_note 42 = .ok (.bipush (-2), 2) := by decide +kernel
theorem dX4_note_44 : decode cX4_note 44 = .ok (.ireturn, 1) := by decide +kernel
theorem dX4_note_45 : decode cX4_note 45 = .ok (.aload_n 0, 1) := by decide +kernel
theorem dX4_note_46 : decode cX4_note 46 = .ok (.getfield 19, 3) := by decide +kernel
theorem dX4_note_49 : decode cX4_note 49 = .ok (.bipush 11, 2) := by decide +kernel
theorem dX4_note_51 : decode cX4_note 51 = .ok (.iload_n 1, 1) := by decide +kernel
theorem dX4_note_52 : decode cX4_note 52 = .ok (.iadd, 1) := by decide +kernel
theorem dX4_note_53 : decode cX4_note 53 = .ok (.dup2, 1) := by decide +kernel
theorem dX4_note_54 : decode cX4_note 54 = .ok (.iaload, 1) := by decide +kernel
theorem dX4_note_55 : decode cX4_note 55 = .ok (.iconst 1, 1) := by decide +kernel
theorem dX4_note_56 : decode cX4_note 56 = .ok (.iload_n 2, 1) := by decide +kernel
theorem dX4_note_57 : decode cX4_note 57 = .ok (.ishl, 1) := by decide +kernel
theorem dX4_note_58 : decode cX4_note 58 = .ok (.ior, 1) := by decide +kernel
theorem dX4_note_59 : decode cX4_note 59 = .ok (.iastore, 1) := by decide +kernel
theorem dX4_note_60 : decode cX4_note 60 = .ok (.aload_n 0, 1) := by decide +kernel
theorem dX4_note_61 : decode cX4_note 61 = .ok (.getfield 19, 3) := by decide +kernel
theorem dX4_note_64 : decode cX4_note 64 = .ok (.bipush 11, 2) := by decide +kernel
theorem dX4_note_66 : decode cX4_note 66 = .ok (.iload_n 1, 1) := by decide +kernel
theorem dX4_note_67 : decode cX4_note 67 = .ok (.iadd, 1) := by decide +kernel
theorem dX4_note_68 : decode cX4_note 68 = .ok (.iaload, 1) := by decide +kernel
theorem dX4_note_69 : decode cX4_note 69 = .ok (.ireturn, 1) := by decide +kernel
theorem dX4_deed_0 : decode cX4_deed 0 = .ok (.aload_n 0, 1) := by decide +kernel
theorem dX4_deed_1 : decode cX4_deed 1 = .ok (.iload_n 1, 1) := by decide +kernel
theorem dX4_deed_2 : decode cX4_deed 2 = .ok (.invokevirtual 99, 3) := by decide +kernel
theorem dX4_deed_5 : decode cX4_deed 5 = .ok (.ifCond .eq 10, 3) := by decide +kernel
theorem dX4_deed_8 : decode cX4_deed 8 = .ok (.iload_n 2, 1) := by decide +kernel
theorem dX4_deed_9 : decode cX4_deed 9 = .ok (.invokestatic 105, 3) := by decide +kernel
theorem dX4_deed_12 : decode cX4_deed 12 = .ok (.ifCond .ne 5, 3) := by decide +kernel
theorem dX4_deed_15 : decode cX4_deed 15 = .ok (.iconst (-1), 1) := by decide +kernel
theorem dX4_deed_16 : decode cX4_deed 16 = .ok (.ireturn, 1) := by decide +kernel
theorem dX4_deed_17 : decode cX4_deed 17 = .ok (.iload_n 2, 1) := by decide +kernel
theorem dX4_deed_18 : decode cX4_deed 18 = .ok (.aload_n 0, 1) := by decide +kernel
theorem dX4_deed_19 : decode cX4_deed 19 = .ok (.getfield 19, 3) := by decide +kernel
theorem dX4_deed_22 : decode cX4_deed 22 = .ok (.iconst 1, 1) := by decide +kernel
theorem dX4_deed_23 : decode cX4_deed 23 = .ok (.iconst 2, 1) := by decide +kernel
theorem dX4_deed_24 : decode cX4_deed 24 = .ok (.iload_n 1, 1) := by decide +kernel
theorem dX4_deed_25 : decode cX4_deed 25 = .ok (.imul, 1) := by decide +kernel
theorem dX4_deed_26 : decode cX4_deed 26 = .ok (.iadd, 1) := by decide +kernel
theorem dX4_deed_27 : decode cX4_deed 27 = .ok (.aload_n 0, 1) := by decide +kernel
theorem dX4_deed_28 : decode cX4_deed 28 = .ok (.invokevirtual 102, 3) := by decide +kernel
theorem dX4_deed_31 : decode cX4_deed 31 = .ok (.iadd, 1) := by decide +kernel
theorem dX4_deed_32 : decode cX4_deed 32 = .ok (.iaload, 1) := by decide +kernel
theorem dX4_deed_33 : decode cX4_deed 33 = .ok (.iconst (-1), 1) := by decide +kernel
theorem dX4_deed_34 : decode cX4_deed 34 = .ok (.ixor, 1) := by decide +kernel
theorem dX4_deed_35 : decode cX4_deed 35 = .ok (.iand, 1) := by decide +kernel
theorem dX4_deed_36 : decode cX4_deed 36 = .ok (.ifCond .ne 7, 3) := by decide +kernel
theorem dX4_deed_39 : decode cX4_deed 39 = .ok (.iconst 1, 1) := by decide +kernel
theorem dX4_deed_40 : decode cX4_deed 40 = .ok (.goto 4, 3) := by decide +kernel
theorem dX4_deed_43 : decode cX4_deed 43 = .ok (.iconst 0, 1) := by decide +kernel
theorem dX4_deed_44 : decode cX4_deed 44 = .ok (.ireturn, 1) := by decide +kernel
theorem dX4_tells_0 : decode cX4_tells 0 = .ok (.iload_n 1, 1) := by decide +kernel
theorem dX4_tells_1 : decode cX4_tells 1 = .ok (.iload_n 2, 1) := by decide +kernel
theorem dX4_tells_2 : decode cX4_tells 2 = .ok (.iconst (-1), 1) := by decide +kernel
theorem dX4_tells_3 : decode cX4_tells 3 = .ok (.ixor, 1) := by decide +kernel
theorem dX4_tells_4 : decode cX4_tells 4 = .ok (.iand, 1) := by decide +kernel
theorem dX4_tells_5 : decode cX4_tells 5 = .ok (.istore_n 3, 1) := by decide +kernel
theorem dX4_tells_6 : decode cX4_tells 6 = .ok (.iconst 0, 1) := by decide +kernel
theorem dX4_tells_7 : decode cX4_tells 7 = .ok (.istore 4, 2) := by decide +kernel
theorem dX4_tells_9 : decode cX4_tells 9 = .ok (.iconst 0, 1) := by decide +kernel
theorem dX4_tells_10 : decode cX4_tells 10 = .ok (.istore 5, 2) := by decide +kernel
theorem dX4_tells_12 : decode cX4_tells 12 = .ok (.iload 5, 2) := by decide +kernel
theorem dX4_tells_14 : decode cX4_tells 14 = .ok (.aload_n 0, 1) := by decide +kernel
theorem dX4_tells_15 : decode cX4_tells 15 = .ok (.getfield 13, 3) := by decide +kernel
theorem dX4_tells_18 : decode cX4_tells 18 = .ok (.iconst 4, 1) := by decide +kernel
theorem dX4_tells_19 : decode cX4_tells 19 = .ok (.iaload, 1) := by decide +kernel
theorem dX4_tells_20 : decode cX4_tells 20 = .ok (.if_icmp .ge 24, 3) := by decide +kernel
theorem dX4_tells_23 : decode cX4_tells 23 = .ok (.iload 4, 2) := by decide +kernel
theorem dX4_tells_25 : decode cX4_tells 25 = .ok (.iload_n 3, 1) := by decide +kernel
theorem dX4_tells_26 : decode cX4_tells 26 = .ok (.iload_n 3, 1) := by decide +kernel
theorem dX4_tells_27 : decode cX4_tells 27 = .ok (.ineg, 1) := by decide +kernel
theorem dX4_tells_28 : decode cX4_tells 28 = .ok (.iand, 1) := by decide +kernel
theorem dX4_tells_29 : decode cX4_tells 29 = .ok (.ior, 1) := by decide +kernel
theorem dX4_tells_30 : decode cX4_tells 30 = .ok (.istore 4, 2) := by decide +kernel
theorem dX4_tells_32 : decode cX4_tells 32 = .ok (.iload_n 3, 1) := by decide +kernel
theorem dX4_tells_33 : decode cX4_tells 33 = .ok (.iload_n 3, 1) := by decide +kernel
theorem dX4_tells_34 : decode cX4_tells 34 = .ok (.iconst 1, 1) := by decide +kernel
theorem dX4_tells_35 : decode cX4_tells 35 = .ok (.isub, 1) := by decide +kernel
theorem dX4_tells_36 : decode cX4_tells 36 = .ok (.iand, 1) := by decide +kernel
theorem dX4_tells_37 : decode cX4_tells 37 = .ok (.istore_n 3, 1) := by decide +kernel
theorem dX4_tells_38 : decode cX4_tells 38 = .ok (.iinc 5 1, 3) := by decide +kernel
theorem dX4_tells_41 : decode cX4_tells 41 = .ok (.goto (-29), 3) := by decide +kernel
theorem dX4_tells_44 : decode cX4_tells 44 = .ok (.iload 4, 2) := by decide +kernel
theorem dX4_tells_46 : decode cX4_tells 46 = .ok (.ireturn, 1) := by decide +kernel
theorem dX4_ends_0 : decode cX4_ends 0 = .ok (.aload_n 0, 1) := by decide +kernel
theorem dX4_ends_1 : decode cX4_ends 1 = .ok (.getfield 22, 3) := by decide +kernel
theorem dX4_ends_4 : decode cX4_ends 4 = .ok (.iconst 0, 1) := by decide +kernel
theorem dX4_ends_5 : decode cX4_ends 5 = .ok (.dup2, 1) := by decide +kernel
theorem dX4_ends_6 : decode cX4_ends 6 = .ok (.iaload, 1) := by decide +kernel
theorem dX4_ends_7 : decode cX4_ends 7 = .ok (.iconst 1, 1) := by decide +kernel
theorem dX4_ends_8 : decode cX4_ends 8 = .ok (.iadd, 1) := by decide +kernel
theorem dX4_ends_9 : decode cX4_ends 9 = .ok (.iastore, 1) := by decide +kernel
theorem dX4_ends_10 : decode cX4_ends 10 = .ok (.iconst 0, 1) := by decide +kernel
theorem dX4_ends_11 : decode cX4_ends 11 = .ok (.istore_n 1, 1) := by decide +kernel
theorem dX4_ends_12 : decode cX4_ends 12 = .ok (.iload_n 1, 1) := by decide +kernel
theorem dX4_ends_13 : decode cX4_ends 13 = .ok (.aload_n 0, 1) := by decide +kernel
theorem dX4_ends_14 : decode cX4_ends 14 = .ok (.getfield 13, 3) := by decide +kernel
theorem dX4_ends_17 : decode cX4_ends 17 = .ok (.iconst 0, 1) := by decide +kernel
theorem dX4_ends_18 : decode cX4_ends 18 = .ok (.iaload, 1) := by decide +kernel
theorem dX4_ends_19 : decode cX4_ends 19 = .ok (.if_icmp .ge 108, 3) := by decide +kernel
theorem dX4_ends_22 : decode cX4_ends 22 = .ok (.aload_n 0, 1) := by decide +kernel
theorem dX4_ends_23 : decode cX4_ends 23 = .ok (.getfield 22, 3) := by decide +kernel
theorem dX4_ends_26 : decode cX4_ends 26 = .ok (.iconst 1, 1) := by decide +kernel
theorem dX4_ends_27 : decode cX4_ends 27 = .ok (.iconst 2, 1) := by decide +kernel
theorem dX4_ends_28 : decode cX4_ends 28 = .ok (.iload_n 1, 1) := by decide +kernel
theorem dX4_ends_29 : decode cX4_ends 29 = .ok (.imul, 1) := by decide +kernel
theorem dX4_ends_30 : decode cX4_ends 30 = .ok (.iadd, 1) := by decide +kernel
theorem dX4_ends_31 : decode cX4_ends 31 = .ok (.iaload, 1) := by decide +kernel
theorem dX4_ends_32 : decode cX4_ends 32 = .ok (.istore_n 2, 1) := by decide +kernel
theorem dX4_ends_33 : decode cX4_ends 33 = .ok (.aload_n 0, 1) := by decide +kernel
theorem dX4_ends_34 : decode cX4_ends 34 = .ok (.getfield 22, 3) := by decide +kernel
theorem dX4_ends_37 : decode cX4_ends 37 = .ok (.iconst 2, 1) := by decide +kernel
theorem dX4_ends_38 : decode cX4_ends 38 = .ok (.iconst 2, 1) := by decide +kernel
theorem dX4_ends_39 : decode cX4_ends 39 = .ok (.iload_n 1, 1) := by decide +kernel
theorem dX4_ends_40 : decode cX4_ends 40 = .ok (.imul, 1) := by decide +kernel
theorem dX4_ends_41 : decode cX4_ends 41 = .ok (.iadd, 1) := by decide +kernel
theorem dX4_ends_42 : decode cX4_ends 42 = .ok (.iaload, 1) := by decide +kernel
theorem dX4_ends_43 : decode cX4_ends 43 = .ok (.istore_n 3, 1) := by decide +kernel
theorem dX4_ends_44 : decode cX4_ends 44 = .ok (.aload_n 0, 1) := by decide +kernel
theorem dX4_ends_45 : decode cX4_ends 45 = .ok (.getfield 22, 3) := by decide +kernel
theorem dX4_ends_48 : decode cX4_ends 48 = .ok (.iconst 1, 1) := by decide +kernel
theorem dX4_ends_49 : decode cX4_ends 49 = .ok (.iconst 2, 1) := by decide +kernel
theorem dX4_ends_50 : decode cX4_ends 50 = .ok (.iload_n 1, 1) := by decide +kernel
theorem dX4_ends_51 : decode cX4_ends 51 = .ok (.imul, 1) := by decide +kernel
theorem dX4_ends_52 : decode cX4_ends 52 = .ok (.iadd, 1) := by decide +kernel
theorem dX4_ends_53 : decode cX4_ends 53 = .ok (.iload_n 2, 1) := by decide +kernel
theorem dX4_ends_54 : decode cX4_ends 54 = .ok (.aload_n 0, 1) := by decide +kernel
theorem dX4_ends_55 : decode cX4_ends 55 = .ok (.iload_n 3, 1) := by decide +kernel
theorem dX4_ends_56 : decode cX4_ends 56 = .ok (.iload_n 2, 1) := by decide +kernel
theorem dX4_ends_57 : decode cX4_ends 57 = .ok (.invokevirtual 108, 3) := by decide +kernel
theorem dX4_ends_60 : decode cX4_ends 60 = .ok (.ior, 1) := by decide +kernel
theorem dX4_ends_61 : decode cX4_ends 61 = .ok (.iastore, 1) := by decide +kernel
theorem dX4_ends_62 : decode cX4_ends 62 = .ok (.aload_n 0, 1) := by decide +kernel
theorem dX4_ends_63 : decode cX4_ends 63 = .ok (.getfield 22, 3) := by decide +kernel
theorem dX4_ends_66 : decode cX4_ends 66 = .ok (.iconst 2, 1) := by decide +kernel
theorem dX4_ends_67 : decode cX4_ends 67 = .ok (.iconst 2, 1) := by decide +kernel
theorem dX4_ends_68 : decode cX4_ends 68 = .ok (.iload_n 1, 1) := by decide +kernel
theorem dX4_ends_69 : decode cX4_ends 69 = .ok (.imul, 1) := by decide +kernel
theorem dX4_ends_70 : decode cX4_ends 70 = .ok (.iadd, 1) := by decide +kernel
theorem dX4_ends_71 : decode cX4_ends 71 = .ok (.iload_n 3, 1) := by decide +kernel
theorem dX4_ends_72 : decode cX4_ends 72 = .ok (.aload_n 0, 1) := by decide +kernel
theorem dX4_ends_73 : decode cX4_ends 73 = .ok (.iload_n 2, 1) := by decide +kernel
theorem dX4_ends_74 : decode cX4_ends 74 = .ok (.iload_n 3, 1) := by decide +kernel
theorem dX4_ends_75 : decode cX4_ends 75 = .ok (.invokevirtual 108, 3) := by decide +kernel
theorem dX4_ends_78 : decode cX4_ends 78 = .ok (.ior, 1) := by decide +kernel
theorem dX4_ends_79 : decode cX4_ends 79 = .ok (.iastore, 1) := by decide +kernel
theorem dX4_ends_80 : decode cX4_ends 80 = .ok (.aload_n 0, 1) := by decide +kernel
theorem dX4_ends_81 : decode cX4_ends 81 = .ok (.getfield 22, 3) := by decide +kernel
theorem dX4_ends_84 : decode cX4_ends 84 = .ok (.iconst 1, 1) := by decide +kernel
theorem dX4_ends_85 : decode cX4_ends 85 = .ok (.iconst 2, 1) := by decide +kernel
theorem dX4_ends_86 : decode cX4_ends 86 = .ok (.iload_n 1, 1) := by decide +kernel
theorem dX4_ends_87 : decode cX4_ends 87 = .ok (.imul, 1) := by decide +kernel
theorem dX4_ends_88 : decode cX4_ends 88 = .ok (.iadd, 1) := by decide +kernel
theorem dX4_ends_89 : decode cX4_ends 89 = .ok (.aload_n 0, 1) := by decide +kernel
theorem dX4_ends_90 : decode cX4_ends 90 = .ok (.getfield 22, 3) := by decide +kernel
theorem dX4_ends_93 : decode cX4_ends 93 = .ok (.iconst 0, 1) := by decide +kernel
theorem dX4_ends_94 : decode cX4_ends 94 = .ok (.iaload, 1) := by decide +kernel
theorem dX4_ends_95 : decode cX4_ends 95 = .ok (.iconst 2, 1) := by decide +kernel
theorem dX4_ends_96 : decode cX4_ends 96 = .ok (.irem, 1) := by decide +kernel
theorem dX4_ends_97 : decode cX4_ends 97 = .ok (.iadd, 1) := by decide +kernel
theorem dX4_ends_98 : decode cX4_ends 98 = .ok (.dup2, 1) := by decide +kernel
theorem dX4_ends_99 : decode cX4_ends 99 = .ok (.iaload, 1) := by decide +kernel
theorem dX4_ends_100 : decode cX4_ends 100 = .ok (.aload_n 0, 1) := by decide +kernel
theorem dX4_ends_101 : decode cX4_ends 101 = .ok (.getfield 22, 3) := by decide +kernel
theorem dX4_ends_104 : decode cX4_ends 104 = .ok (.bipush 11, 2) := by decide +kernel
theorem dX4_ends_106 : decode cX4_ends 106 = .ok (.iload_n 1, 1) := by decide +kernel
theorem dX4_ends_107 : decode cX4_ends 107 = .ok (.iadd, 1) := by decide +kernel
theorem dX4_ends_108 : decode cX4_ends 108 = .ok (.iaload, 1) := by decide +kernel
theorem dX4_ends_109 : decode cX4_ends 109 = .ok (.ior, 1) := by decide +kernel
theorem dX4_ends_110 : decode cX4_ends 110 = .ok (.iastore, 1) := by decide +kernel
theorem dX4_ends_111 : decode cX4_ends 111 = .ok (.aload_n 0, 1) := by decide +kernel
theorem dX4_ends_112 : decode cX4_ends 112 = .ok (.getfield 22, 3) := by decide +kernel
theorem dX4_ends_115 : decode cX4_ends 115 = .ok (.bipush 11, 2) := by decide +kernel
theorem dX4_ends_117 : decode cX4_ends 117 = .ok (.iload_n 1, 1) := by decide +kernel
theorem dX4_ends_118 : decode cX4_ends 118 = .ok (.iadd, 1) := by decide +kernel
theorem dX4_ends_119 : decode cX4_ends 119 = .ok (.iconst 0, 1) := by decide +kernel
theorem dX4_ends_120 : decode cX4_ends 120 = .ok (.iastore, 1) := by decide +kernel
theorem dX4_ends_121 : decode cX4_ends 121 = .ok (.iinc 1 1, 3) := by decide +kernel
theorem dX4_ends_124 : decode cX4_ends 124 = .ok (.goto (-112), 3) := by decide +kernel
theorem dX4_ends_127 : decode cX4_ends 127 = .ok (.return_, 1) := by decide +kernel
theorem dX4_plays_0 : decode cX4_plays 0 = .ok (.iconst 0, 1) := by decide +kernel
theorem dX4_plays_1 : decode cX4_plays 1 = .ok (.istore_n 2, 1) := by decide +kernel
theorem dX4_plays_2 : decode cX4_plays 2 = .ok (.iload_n 2, 1) := by decide +kernel
theorem dX4_plays_3 : decode cX4_plays 3 = .ok (.bipush 16, 2) := by decide +kernel
theorem dX4_plays_5 : decode cX4_plays 5 = .ok (.if_icmp .ge 21, 3) := by decide +kernel
theorem dX4_plays_8 : decode cX4_plays 8 = .ok (.aload_n 0, 1) := by decide +kernel
theorem dX4_plays_9 : decode cX4_plays 9 = .ok (.getfield 22, 3) := by decide +kernel
theorem dX4_plays_12 : decode cX4_plays 12 = .ok (.iload_n 2, 1) := by decide +kernel
theorem dX4_plays_13 : decode cX4_plays 13 = .ok (.aload_n 0, 1) := by decide +kernel
theorem dX4_plays_14 : decode cX4_plays 14 = .ok (.getfield 19, 3) := by decide +kernel
