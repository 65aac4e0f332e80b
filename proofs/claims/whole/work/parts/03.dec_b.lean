theorem dX3_init_0 : decode cX3_init 0 = .ok (.aload_n 0, 1) := by decide +kernel
theorem dX3_init_1 : decode cX3_init 1 = .ok (.invokespecial 3, 3) := by decide +kernel
theorem dX3_init_4 : decode cX3_init 4 = .ok (.aload_n 0, 1) := by decide +kernel
theorem dX3_init_5 : decode cX3_init 5 = .ok (.new 9, 3) := by decide +kernel
theorem dX3_init_8 : decode cX3_init 8 = .ok (.dup, 1) := by decide +kernel
theorem dX3_init_9 : decode cX3_init 9 = .ok (.invokespecial 11, 3) := by decide +kernel
theorem dX3_init_12 : decode cX3_init 12 = .ok (.putfield 12, 3) := by decide +kernel
theorem dX3_init_15 : decode cX3_init 15 = .ok (.aload_n 0, 1) := by decide +kernel
theorem dX3_init_16 : decode cX3_init 16 = .ok (.new 16, 3) := by decide +kernel
theorem dX3_init_19 : decode cX3_init 19 = .ok (.dup, 1) := by decide +kernel
theorem dX3_init_20 : decode cX3_init 20 = .ok (.invokespecial 18, 3) := by decide +kernel
theorem dX3_init_23 : decode cX3_init 23 = .ok (.putfield 19, 3) := by decide +kernel
theorem dX3_init_26 : decode cX3_init 26 = .ok (.aload_n 0, 1) := by decide +kernel
theorem dX3_init_27 : decode cX3_init 27 = .ok (.new 16, 3) := by decide +kernel
theorem dX3_init_30 : decode cX3_init 30 = .ok (.dup, 1) := by decide +kernel
theorem dX3_init_31 : decode cX3_init 31 = .ok (.invokespecial 18, 3) := by decide +kernel
theorem dX3_init_34 : decode cX3_init 34 = .ok (.putfield 23, 3) := by decide +kernel
theorem dX3_init_37 : decode cX3_init 37 = .ok (.aload_n 0, 1) := by decide +kernel
theorem dX3_init_38 : decode cX3_init 38 = .ok (.new 26, 3) := by decide +kernel
theorem dX3_init_41 : decode cX3_init 41 = .ok (.dup, 1) := by decide +kernel
theorem dX3_init_42 : decode cX3_init 42 = .ok (.invokespecial 28, 3) := by decide +kernel
theorem dX3_init_45 : decode cX3_init 45 = .ok (.putfield 29, 3) := by decide +kernel
theorem dX3_init_48 : decode cX3_init 48 = .ok (.aload_n 0, 1) := by decide +kernel
theorem dX3_init_49 : decode cX3_init 49 = .ok (.new 26, 3) := by decide +kernel
theorem dX3_init_52 : decode cX3_init 52 = .ok (.dup, 1) := by decide +kernel
theorem dX3_init_53 : decode cX3_init 53 = .ok (.invokespecial 28, 3) := by decide +kernel
theorem dX3_init_56 : decode cX3_init 56 = .ok (.putfield 33, 3) := by decide +kernel
theorem dX3_init_59 : decode cX3_init 59 = .ok (.aload_n 0, 1) := by decide +kernel
theorem dX3_init_60 : decode cX3_init 60 = .ok (.new 26, 3) := by decide +kernel
theorem dX3_init_63 : decode cX3_init 63 = .ok (.dup, 1) := by decide +kernel
theorem dX3_init_64 : decode cX3_init 64 = .ok (.invokespecial 28, 3) := by decide +kernel
theorem dX3_init_67 : decode cX3_init 67 = .ok (.putfield 36, 3) := by decide +kernel
theorem dX3_init_70 : decode cX3_init 70 = .ok (.aload_n 0, 1) := by decide +kernel
theorem dX3_init_71 : decode cX3_init 71 = .ok (.new 26, 3) := by decide +kernel
theorem dX3_init_74 : decode cX3_init 74 = .ok (.dup, 1) := by decide +kernel
theorem dX3_init_75 : decode cX3_init 75 = .ok (.invokespecial 28, 3) := by decide +kernel
theorem dX3_init_78 : decode cX3_init 78 = .ok (.putfield 39, 3) := by decide +kernel
theorem dX3_init_81 : decode cX3_init 81 = .ok (.aload_n 0, 1) := by decide +kernel
theorem dX3_init_82 : decode cX3_init 82 = .ok (.bipush 10, 2) := by decide +kernel
theorem dX3_init_84 : decode cX3_init 84 = .ok (.newarray .int, 2) := by decide +kernel
theorem dX3_init_86 : decode cX3_init 86 = .ok (.putfield 42, 3) := by decide +kernel
theorem dX3_init_89 : decode cX3_init 89 = .ok (.aload_n 0, 1) := by decide +kernel
theorem dX3_init_90 : decode cX3_init 90 = .ok (.bipush 10, 2) := by decide +kernel
theorem dX3_init_92 : decode cX3_init 92 = .ok (.newarray .int, 2) := by decide +kernel
theorem dX3_init_94 : decode cX3_init 94 = .ok (.putfield 46, 3) := by decide +kernel
theorem dX3_init_97 : decode cX3_init 97 = .ok (.aload_n 0, 1) := by decide +kernel
theorem dX3_init_98 : decode cX3_init 98 = .ok (.bipush 10, 2) := by decide +kernel
theorem dX3_init_100 : decode cX3_init 100 = .ok (.newarray .int, 2) := by decide +kernel
theorem dX3_init_102 : decode cX3_init 102 = .ok (.putfield 49, 3) := by decide +kernel
theorem dX3_init_105 : decode cX3_init 105 = .ok (.aload_n 0, 1) := by decide +kernel
theorem dX3_init_106 : decode cX3_init 106 = .ok (.getfield 19, 3) := by decide +kernel
theorem dX3_init_109 : decode cX3_init 109 = .ok (.iconst 1, 1) := by decide +kernel
theorem dX3_init_110 : decode cX3_init 110 = .ok (.iconst 2, 1) := by decide +kernel
theorem dX3_init_111 : decode cX3_init 111 = .ok (.invokevirtual 52, 3) := by decide +kernel
theorem dX3_init_114 : decode cX3_init 114 = .ok (.pop, 1) := by decide +kernel
theorem dX3_init_115 : decode cX3_init 115 = .ok (.aload_n 0, 1) := by decide +kernel
theorem dX3_init_116 : decode cX3_init 116 = .ok (.getfield 19, 3) := by decide +kernel
theorem dX3_init_119 : decode cX3_init 119 = .ok (.iconst 0, 1) := by decide +kernel
theorem dX3_init_120 : decode cX3_init 120 = .ok (.invokevirtual 56, 3) := by decide +kernel
theorem dX3_init_123 : decode cX3_init 123 = .ok (.pop, 1) := by decide +kernel
theorem dX3_init_124 : decode cX3_init 124 = .ok (.aload_n 0, 1) := by decide +kernel
theorem dX3_init_125 : decode cX3_init 125 = .ok (.getfield 19, 3) := by decide +kernel
theorem dX3_init_128 : decode cX3_init 128 = .ok (.iconst 1, 1) := by decide +kernel
theorem dX3_init_129 : decode cX3_init 129 = .ok (.invokevirtual 56, 3) := by decide +kernel
theorem dX3_init_132 : decode cX3_init 132 = .ok (.pop, 1) := by decide +kernel
theorem dX3_init_133 : decode cX3_init 133 = .ok (.aload_n 0, 1) := by decide +kernel
theorem dX3_init_134 : decode cX3_init 134 = .ok (.getfield 19, 3) := by decide +kernel
theorem dX3_init_137 : decode cX3_init 137 = .ok (.invokevirtual 60, 3) := by decide +kernel
theorem dX3_init_140 : decode cX3_init 140 = .ok (.pop, 1) := by decide +kernel
theorem dX3_init_141 : decode cX3_init 141 = .ok (.aload_n 0, 1) := by decide +kernel
theorem dX3_init_142 : decode cX3_init 142 = .ok (.getfield 29, 3) := by decide +kernel
theorem dX3_init_145 : decode cX3_init 145 = .ok (.aload_n 0, 1) := by decide +kernel
theorem dX3_init_146 : decode cX3_init 146 = .ok (.getfield 19, 3) := by decide +kernel
theorem dX3_init_149 : decode cX3_init 149 = .ok (.invokevirtual 64, 3) := by decide +kernel
theorem dX3_init_152 : decode cX3_init 152 = .ok (.return_, 1) := by decide +kernel
theorem dX3_write_0 : decode cX3_write 0 = .ok (.iload_n 1, 1) := by decide +kernel
theorem dX3_write_1 : decode cX3_write 1 = .ok (.iconst 1, 1) := by decide +kernel
theorem dX3_write_2 : decode cX3_write 2 = .ok (.if_icmp .lt 9, 3) := by decide +kernel
theorem dX3_write_5 : decode cX3_write 5 = .ok (.iload_n 1, 1) := by decide +kernel
theorem dX3_write_6 : decode cX3_write 6 = .ok (.bipush 8, 2) := by decide +kernel
theorem dX3_write_8 : decode cX3_write 8 = .ok (.if_icmp .le 5, 3) := by decide +kernel
theorem dX3_write_11 : decode cX3_write 11 = .ok (.iconst (-1), 1) := by decide +kernel
theorem dX3_write_12 : decode cX3_write 12 = .ok (.ireturn, 1) := by decide +kernel
theorem dX3_write_13 : decode cX3_write 13 = .ok (.aload_n 0, 1) := by decide +kernel
theorem dX3_write_14 : decode cX3_write 14 = .ok (.getfield 12, 3) := by decide +kernel
theorem dX3_write_17 : decode cX3_write 17 = .ok (.getfield 68, 3) := by decide +kernel
theorem dX3_write_20 : decode cX3_write 20 = .ok (.iload_n 1, 1) := by decide +kernel
theorem dX3_write_21 : decode cX3_write 21 = .ok (.iadd, 1) := by decide +kernel
theorem dX3_write_22 : decode cX3_write 22 = .ok (.sipush 300, 3) := by decide +kernel
theorem dX3_write_25 : decode cX3_write 25 = .ok (.if_icmp .le 6, 3) := by decide +kernel
theorem dX3_write_28 : decode cX3_write 28 = .ok (.bipush (-3), 2) := by decide +kernel
theorem dX3_write_30 : decode cX3_write 30 = .ok (.ireturn, 1) := by decide +kernel
theorem dX3_write_31 : decode cX3_write 31 = .ok (.iload_n 1, 1) := by decide +kernel
theorem dX3_write_32 : decode cX3_write 32 = .ok (.iconst 1, 1) := by decide +kernel
theorem dX3_write_33 : decode cX3_write 33 = .ok (.isub, 1) := by decide +kernel
theorem dX3_write_34 : decode cX3_write 34 = .ok (.istore 4, 2) := by decide +kernel
theorem dX3_write_36 : decode cX3_write 36 = .ok (.iload 4, 2) := by decide +kernel
theorem dX3_write_38 : decode cX3_write 38 = .ok (.ifCond .lt 25, 3) := by decide +kernel
theorem dX3_write_41 : decode cX3_write 41 = .ok (.aload_n 0, 1) := by decide +kernel
theorem dX3_write_42 : decode cX3_write 42 = .ok (.getfield 12, 3) := by decide +kernel
theorem dX3_write_45 : decode cX3_write 45 = .ok (.lload_n 2, 1) := by decide +kernel
theorem dX3_write_46 : decode cX3_write 46 = .ok (.bipush 8, 2) := by decide +kernel
theorem dX3_write_48 : decode cX3_write 48 = .ok (.iload 4, 2) := by decide +kernel
theorem dX3_write_50 : decode cX3_write 50 = .ok (.imul, 1) := by decide +kernel
theorem dX3_write_51 : decode cX3_write 51 = .ok (.lushr, 1) := by decide +kernel
theorem dX3_write_52 : decode cX3_write 52 = .ok (.l2i, 1) := by decide +kernel
theorem dX3_write_53 : decode cX3_write 53 = .ok (.i2b, 1) := by decide +kernel
theorem dX3_write_54 : decode cX3_write 54 = .ok (.invokevirtual 72, 3) := by decide +kernel
theorem dX3_write_57 : decode cX3_write 57 = .ok (.iinc 4 (-1), 3) := by decide +kernel
theorem dX3_write_60 : decode cX3_write 60 = .ok (.goto (-24), 3) := by decide +kernel
theorem dX3_write_63 : decode cX3_write 63 = .ok (.aload_n 0, 1) := by decide +kernel
theorem dX3_write_64 : decode cX3_write 64 = .ok (.getfield 12, 3) := by decide +kernel
theorem dX3_write_67 : decode cX3_write 67 = .ok (.getfield 68, 3) := by decide +kernel
theorem dX3_write_70 : decode cX3_write 70 = .ok (.ireturn, 1) := by decide +kernel
theorem dX3_wipe_0 : decode cX3_wipe 0 = .ok (.aload_n 0, 1) := by decide +kernel
theorem dX3_wipe_1 : decode cX3_wipe 1 = .ok (.getfield 12, 3) := by decide +kernel
theorem dX3_wipe_4 : decode cX3_wipe 4 = .ok (.getfield 68, 3) := by decide +kernel
theorem dX3_wipe_7 : decode cX3_wipe 7 = .ok (.istore_n 1, 1) := by decide +kernel
theorem dX3_wipe_8 : decode cX3_wipe 8 = .ok (.aload_n 0, 1) := by decide +kernel
theorem dX3_wipe_9 : decode cX3_wipe 9 = .ok (.getfield 12, 3) := by decide +kernel
theorem dX3_wipe_12 : decode cX3_wipe 12 = .ok (.iconst 0, 1) := by decide +kernel
theorem dX3_wipe_13 : decode cX3_wipe 13 = .ok (.putfield 68, 3) := by decide +kernel
theorem dX3_wipe_16 : decode cX3_wipe 16 = .ok (.iload_n 1, 1) := by decide +kernel
theorem dX3_wipe_17 : decode cX3_wipe 17 = .ok (.ireturn, 1) := by decide +kernel
theorem dX3_fault_0 : decode cX3_fault 0 = .ok (.aload_n 0, 1) := by decide +kernel
theorem dX3_fault_1 : decode cX3_fault 1 = .ok (.getfield 12, 3) := by decide +kernel
theorem dX3_fault_4 : decode cX3_fault 4 = .ok (.aload_n 0, 1) := by decide +kernel
theorem dX3_fault_5 : decode cX3_fault 5 = .ok (.getfield 23, 3) := by decide +kernel
theorem dX3_fault_8 : decode cX3_fault 8 = .ok (.invokevirtual 76, 3) := by decide +kernel
theorem dX3_fault_11 : decode cX3_fault 11 = .ok (.ireturn, 1) := by decide +kernel
theorem dX3_lay_0 : decode cX3_lay 0 = .ok (.aload_n 0, 1) := by decide +kernel
theorem dX3_lay_1 : decode cX3_lay 1 = .ok (.getfield 12, 3) := by decide +kernel
theorem dX3_lay_4 : decode cX3_lay 4 = .ok (.aload_n 0, 1) := by decide +kernel
theorem dX3_lay_5 : decode cX3_lay 5 = .ok (.getfield 23, 3) := by decide +kernel
theorem dX3_lay_8 : decode cX3_lay 8 = .ok (.invokevirtual 76, 3) := by decide +kernel
theorem dX3_lay_11 : decode cX3_lay 11 = .ok (.bipush (-4), 2) := by decide +kernel
theorem dX3_lay_13 : decode cX3_lay 13 = .ok (.if_icmp .ne 13, 3) := by decide +kernel
theorem dX3_lay_16 : decode cX3_lay 16 = .ok (.aload_n 0, 1) := by decide +kernel
theorem dX3_lay_17 : decode cX3_lay 17 = .ok (.getfield 23, 3) := by decide +kernel
theorem dX3_lay_20 : decode cX3_lay 20 = .ok (.getfield 80, 3) := by decide +kernel
theorem dX3_lay_23 : decode cX3_lay 23 = .ok (.ifCond .ne 6, 3) := by decide +kernel
theorem dX3_lay_26 : decode cX3_lay 26 = .ok (.bipush (-2), 2) := by decide +kernel
theorem dX3_lay_28 : decode cX3_lay 28 = .ok (.ireturn, 1) := by decide +kernel
theorem dX3_lay_29 : decode cX3_lay 29 = .ok (.aload_n 0, 1) := by decide +kernel
theorem dX3_lay_30 : decode cX3_lay 30 = .ok (.getfield 19, 3) := by decide +kernel
theorem dX3_lay_33 : decode cX3_lay 33 = .ok (.astore_n 1, 1) := by decide +kernel
theorem dX3_lay_34 : decode cX3_lay 34 = .ok (.aload_n 0, 1) := by decide +kernel
theorem dX3_lay_35 : decode cX3_lay 35 = .ok (.aload_n 0, 1) := by decide +kernel
theorem dX3_lay_36 : decode cX3_lay 36 = .ok (.getfield 23, 3) := by decide +kernel
theorem dX3_lay_39 : decode cX3_lay 39 = .ok (.putfield 19, 3) := by decide +kernel
theorem dX3_lay_42 : decode cX3_lay 42 = .ok (.aload_n 0, 1) := by decide +kernel
theorem dX3_lay_43 : decode cX3_lay 43 = .ok (.aload_n 1, 1) := by decide +kernel
theorem dX3_lay_44 : decode cX3_lay 44 = .ok (.putfield 23, 3) := by decide +kernel
theorem dX3_lay_47 : decode cX3_lay 47 = .ok (.aload_n 0, 1) := by decide +kernel
theorem dX3_lay_48 : decode cX3_lay 48 = .ok (.getfield 29, 3) := by decide +kernel
theorem dX3_lay_51 : decode cX3_lay 51 = .ok (.aload_n 0, 1) := by decide +kernel
theorem dX3_lay_52 : decode cX3_lay 52 = .ok (.getfield 19, 3) := by decide +kernel
theorem dX3_lay_55 : decode cX3_lay 55 = .ok (.invokevirtual 64, 3) := by decide +kernel
theorem dX3_lay_58 : decode cX3_lay 58 = .ok (.aload_n 0, 1) := by decide +kernel
theorem dX3_lay_59 : decode cX3_lay 59 = .ok (.iconst 0, 1) := by decide +kernel
theorem dX3_lay_60 : decode cX3_lay 60 = .ok (.putfield 83, 3) := by decide +kernel
theorem dX3_lay_63 : decode cX3_lay 63 = .ok (.aload_n 0, 1) := by decide +kernel
theorem dX3_lay_64 : decode cX3_lay 64 = .ok (.iconst 0, 1) := by decide +kernel
theorem dX3_lay_65 : decode cX3_lay 65 = .ok (.putfield 86, 3) := by decide +kernel
theorem dX3_lay_68 : decode cX3_lay 68 = .ok (.aload_n 0, 1) := by decide +kernel
theorem dX3_lay_69 : decode cX3_lay 69 = .ok (.getfield 19, 3) := by decide +kernel
theorem dX3_lay_72 : decode cX3_lay 72 = .ok (.getfield 80, 3) := by decide +kernel
theorem dX3_lay_75 : decode cX3_lay 75 = .ok (.ireturn, 1) := by decide +kernel
theorem dX3_half_0 : decode cX3_half 0 = .ok (.aload_n 0, 1) := by decide +kernel
theorem dX3_half_1 : decode cX3_half 1 = .ok (.iload_n 1, 1) := by decide +kernel
theorem dX3_half_2 : decode cX3_half 2 = .ok (.invokevirtual 89, 3) := by decide +kernel
theorem dX3_half_5 : decode cX3_half 5 = .ok (.ifCond .eq 10, 3) := by decide +kernel
theorem dX3_half_8 : decode cX3_half 8 = .ok (.iload_n 2, 1) := by decide +kernel
theorem dX3_half_9 : decode cX3_half 9 = .ok (.invokestatic 92, 3) := by decide +kernel
theorem dX3_half_12 : decode cX3_half 12 = .ok (.ifCond .ne 5, 3) := by decide +kernel
theorem dX3_half_15 : decode cX3_half 15 = .ok (.iconst (-1), 1) := by decide +kernel
theorem dX3_half_16 : decode cX3_half 16 = .ok (.ireturn, 1) := by decide +kernel
theorem dX3_half_17 : decode cX3_half 17 = .ok (.iload_n 3, 1) := by decide +kernel
theorem dX3_half_18 : decode cX3_half 18 = .ok (.tableswitch 79 0 2 #[26, 40, 54], 26) := by decide +kernel
theorem dX3_half_44 : decode cX3_half 44 = .ok (.aload_n 0, 1) := by decide +kernel
theorem dX3_half_45 : decode cX3_half 45 = .ok (.getfield 19, 3) := by decide +kernel
theorem dX3_half_48 : decode cX3_half 48 = .ok (.getfield 95, 3) := by decide +kernel
theorem dX3_half_51 : decode cX3_half 51 = .ok (.iconst 2, 1) := by decide +kernel
theorem dX3_half_52 : decode cX3_half 52 = .ok (.iload_n 1, 1) := by decide +kernel
theorem dX3_half_53 : decode cX3_half 53 = .ok (.imul, 1) := by decide +kernel
theorem dX3_half_54 : decode cX3_half 54 = .ok (.iload_n 2, 1) := by decide +kernel
theorem dX3_half_55 : decode cX3_half 55 = .ok (.iadd, 1) := by decide +kernel
theorem dX3_half_56 : decode cX3_half 56 = .ok (.iaload, 1) := by decide +kernel
theorem dX3_half_57 : decode cX3_half 57 = .ok (.ireturn, 1) := by decide +kernel
theorem dX3_half_58 : decode cX3_half 58 = .ok (.aload_n 0, 1) := by decide +kernel
theorem dX3_half_59 : decode cX3_half 59 = .ok (.getfield 29, 3) := by decide +kernel
theorem dX3_half_62 : decode cX3_half 62 = .ok (.getfield 98, 3) := by decide +kernel
theorem dX3_half_65 : decode cX3_half 65 = .ok (.iconst 2, 1) := by decide +kernel
theorem dX3_half_66 : decode cX3_half 66 = .ok (.iload_n 1, 1) := by decide +kernel
theorem dX3_half_67 : decode cX3_half 67 = .ok (.imul, 1) := by decide +kernel
theorem dX3_half_68 : decode cX3_half 68 = .ok (.iload_n 2, 1) := by decide +kernel
theorem dX3_half_69 : decode cX3_half 69 = .ok (.iadd, 1) := by decide +kernel
theorem dX3_half_70 : decode cX3_half 70 = .ok (.iaload, 1) := by decide +kernel
theorem dX3_half_71 : decode cX3_half 71 = .ok (.ireturn, 1) := by decide +kernel
theorem dX3_half_72 : decode cX3_half 72 = .ok (.iload_n 2, 1) := by decide +kernel
theorem dX3_half_73 : decode cX3_half 73 = .ok (.aload_n 0, 1) := by decide +kernel
theorem dX3_half_74 : decode cX3_half 74 = .ok (.getfield 29, 3) := by decide +kernel
theorem dX3_half_77 : decode cX3_half 77 = .ok (.invokevirtual 101, 3) := by decide +kernel
theorem dX3_half_80 : decode cX3_half 80 = .ok (.if_icmp .ne 7, 3) := by decide +kernel
theorem dX3_half_83 : decode cX3_half 83 = .ok (.iconst 0, 1) := by decide +kernel
theorem dX3_half_84 : decode cX3_half 84 = .ok (.goto 12, 3) := by decide +kernel
theorem dX3_half_87 : decode cX3_half 87 = .ok (.aload_n 0, 1) := by decide +kernel
theorem dX3_half_88 : decode cX3_half 88 = .ok (.getfield 29, 3) := by decide +kernel
theorem dX3_half_91 : decode cX3_half 91 = .ok (.getfield 105, 3) := by decide +kernel
theorem dX3_half_94 : decode cX3_half 94 = .ok (.iload_n 1, 1) := by decide +kernel
theorem dX3_half_95 : decode cX3_half 95 = .ok (.iaload, 1) := by decide +kernel
theorem dX3_half_96 : decode cX3_half 96 = .ok (.ireturn, 1) := by decide +kernel
theorem dX3_half_97 : decode cX3_half 97 = .ok (.iconst (-1), 1) := by decide +kernel
theorem dX3_half_98 : decode cX3_half 98 = .ok (.ireturn, 1) := by decide +kernel
theorem dX3_see_0 : decode cX3_see 0 = .ok (.aload_n 0, 1) := by decide +kernel
theorem dX3_see_1 : decode cX3_see 1 = .ok (.iload_n 1, 1) := by decide +kernel
theorem dX3_see_2 : decode cX3_see 2 = .ok (.invokevirtual 89, 3) := by decide +kernel
theorem dX3_see_5 : decode cX3_see 5 = .ok (.ifCond .eq 10, 3) := by decide +kernel
theorem dX3_see_8 : decode cX3_see 8 = .ok (.iload_n 2, 1) := by decide +kernel
theorem dX3_see_9 : decode cX3_see 9 = .ok (.invokestatic 108, 3) := by decide +kernel
theorem dX3_see_12 : decode cX3_see 12 = .ok (.ifCond .ne 5, 3) := by decide +kernel
theorem dX3_see_15 : decode cX3_see 15 = .ok (.iconst (-1), 1) := by decide +kernel
theorem dX3_see_16 : decode cX3_see 16 = .ok (.ireturn, 1) := by decide +kernel
theorem dX3_see_17 : decode cX3_see 17 = .ok (.aload_n 0, 1) := by decide +kernel
theorem dX3_see_18 : decode cX3_see 18 = .ok (.getfield 29, 3) := by decide +kernel
theorem dX3_see_21 : decode cX3_see 21 = .ok (.iload_n 1, 1) := by decide +kernel
theorem dX3_see_22 : decode cX3_see 22 = .ok (.iload_n 2, 1) := by decide +kernel
theorem dX3_see_23 : decode cX3_see 23 = .ok (.invokevirtual 111, 3) := by decide +kernel
theorem dX3_see_26 : decode cX3_see 26 = .ok (.aload_n 0, 1) := by decide +kernel
theorem dX3_see_27 : decode cX3_see 27 = .ok (.getfield 29, 3) := by decide +kernel
theorem dX3_see_30 : decode cX3_see 30 = .ok (.iload_n 1, 1) := by decide +kernel
theorem dX3_see_31 : decode cX3_see 31 = .ok (.invokevirtual 115, 3) := by decide +kernel
theorem dX3_see_34 : decode cX3_see 34 = .ok (.ireturn, 1) := by decide +kernel
theorem dX3_note_0 : decode cX3_note 0 = .ok (.aload_n 0, 1) := by decide +kernel
theorem dX3_note_1 : decode cX3_note 1 = .ok (.iload_n 1, 1) := by decide +kernel
theorem dX3_note_2 : decode cX3_note 2 = .ok (.invokevirtual 89, 3) := by decide +kernel
theorem dX3_note_5 : decode cX3_note 5 = .ok (.ifCond .eq 10, 3) := by decide +kernel
theorem dX3_note_8 : decode cX3_note 8 = .ok (.iload_n 2, 1) := by decide +kernel
theorem dX3_note_9 : decode cX3_note 9 = .ok (.invokestatic 108, 3) := by decide +kernel
theorem dX3_note_12 : decode cX3_note 12 = .ok (.ifCond .ne 5, 3) := by decide +kernel
theorem dX3_note_15 : decode cX3_note 15 = .ok (.iconst (-1), 1) := by decide +kernel
theorem dX3_note_16 : decode cX3_note 16 = .ok (.ireturn, 1) := by decide +kernel
theorem dX3_note_17 : decode cX3_note 17 = .ok (.iconst 1, 1) := by decide +kernel
theorem dX3_note_18 : decode cX3_note 18 = .ok (.iload_n 2, 1) := by decide +kernel
theorem dX3_note_19 : decode cX3_note 19 = .ok (.ishl, 1) := by decide +kernel
theorem dX3_note_20 : decode cX3_note 20 = .ok (.istore_n 3, 1) := by decide +kernel
theorem dX3_note_21 : decode cX3_note 21 = .ok (.aload_n 0, 1) := by decide +kernel
theorem dX3_note_22 : decode cX3_note 22 = .ok (.getfield 29, 3) := by decide +kernel
theorem dX3_note_25 : decode cX3_note 25 = .ok (.iload_n 1, 1) := by decide +kernel
theorem dX3_note_26 : decode cX3_note 26 = .ok (.invokevirtual 115, 3) := by decide +kernel
theorem dX3_note_29 : decode cX3_note 29 = .ok (.iload_n 3, 1) := by decide +kernel
theorem dX3_note_30 : decode cX3_note 30 = .ok (.iand, 1) := by decide +kernel
theorem dX3_note_31 : decode cX3_note 31 = .ok (.ifCond .ne 6, 3) := by decide +kernel
theorem dX3_note_34 : decode cX3_note 34 = .ok (.bipush (-2), 2) := by decide +kernel
theorem dX3_note_36 : decode cX3_note 36 = .ok (.ireturn, 1) := by decide +kernel
theorem dX3_note_37 : decode cX3_note 37 = .ok (.aload_n 0, 1) := by decide +kernel
theorem dX3_note_38 : decode cX3_note 38 = .ok (.getfield 29, 3) := by decide +kernel
theorem dX3_note_41 : decode cX3_note 41 = .ok (.getfield 105, 3) := by decide +kernel
theorem dX3_note_44 : decode cX3_note 44 = .ok (.iload_n 1, 1) := by decide +kernel
theorem dX3_note_45 : decode cX3_note 45 = .ok (.dup2, 1) := by decide +kernel
theorem dX3_note_46 : decode cX3_note 46 = .ok (.iaload, 1) := by decide +kernel
theorem dX3_note_47 : decode cX3_note 47 = .ok (.iload_n 3, 1) := by decide +kernel
theorem dX3_note_48 : decode cX3_note 48 = .ok (.ior, 1) := by decide +kernel
theorem dX3_note_49 : decode cX3_note 49 = .ok (.iastore, 1) := by decide +kernel
theorem dX3_note_50 : decode cX3_note 50 = .ok (.aload_n 0, 1) := by decide +kernel
theorem dX3_note_51 : decode cX3_note 51 = .ok (.getfield 29, 3) := by decide +kernel
theorem dX3_note_54 : decode cX3_note 54 = .ok (.getfield 105, 3) := by decide +kernel
theorem dX3_note_57 : decode cX3_note 57 = .ok (.iload_n 1, 1) := by decide +kernel
theorem dX3_note_58 : decode cX3_note 58 = .ok (.iaload, 1) := by decide +kernel
theorem dX3_note_59 : decode cX3_note 59 = .ok (.ireturn, 1) := by decide +kernel
theorem dX3_deed_0 : decode cX3_deed 0 = .ok (.aload_n 0, 1) := by decide +kernel
theorem dX3_deed_1 : decode cX3_deed 1 = .ok (.iload_n 1, 1) := by decide +kernel
theorem dX3_deed_2 : decode cX3_deed 2 = .ok (.invokevirtual 89, 3) := by decide +kernel
theorem dX3_deed_5 : decode cX3_deed 5 = .ok (.ifCond .eq 10, 3) := by decide +kernel
theorem dX3_deed_8 : decode cX3_deed 8 = .ok (.iload_n 2, 1) := by decide +kernel
theorem dX3_deed_9 : decode cX3_deed 9 = .ok (.invokestatic 119, 3) := by decide +kernel
theorem dX3_deed_12 : decode cX3_deed 12 = .ok (.ifCond .ne 5, 3) := by decide +kernel
theorem dX3_deed_15 : decode cX3_deed 15 = .ok (.iconst (-1), 1) := by decide +kernel
theorem dX3_deed_16 : decode cX3_deed 16 = .ok (.ireturn, 1) := by decide +kernel
theorem dX3_deed_17 : decode cX3_deed 17 = .ok (.aload_n 0, 1) := by decide +kernel
theorem dX3_deed_18 : decode cX3_deed 18 = .ok (.getfield 29, 3) := by decide +kernel
theorem dX3_deed_21 : decode cX3_deed 21 = .ok (.iload_n 1, 1) := by decide +kernel
theorem dX3_deed_22 : decode cX3_deed 22 = .ok (.invokevirtual 115, 3) := by decide +kernel
theorem dX3_deed_25 : decode cX3_deed 25 = .ok (.iload_n 2, 1) := by decide +kernel
theorem dX3_deed_26 : decode cX3_deed 26 = .ok (.invokestatic 122, 3) := by decide +kernel
theorem dX3_deed_29 : decode cX3_deed 29 = .ok (.ifCond .eq 7, 3) := by decide +kernel
theorem dX3_deed_32 : decode cX3_deed 32 = .ok (.iconst 1, 1) := by decide +kernel
theorem dX3_deed_33 : decode cX3_deed 33 = .ok (.goto 4, 3) := by decide +kernel
theorem dX3_deed_36 : decode cX3_deed 36 = .ok (.iconst 0, 1) := by decide +kernel
theorem dX3_deed_37 : decode cX3_deed 37 = .ok (.ireturn, 1) := by decide +kernel
theorem dX3_shifts_0 : decode cX3_shifts 0 = .ok (.iload_n 1, 1) := by decide +kernel
theorem dX3_shifts_1 : decode cX3_shifts 1 = .ok (.iconst 1, 1) := by decide +kernel
theorem dX3_shifts_2 : decode cX3_shifts 2 = .ok (.if_icmp .lt 9, 3) := by decide +kernel
theorem dX3_shifts_5 : decode cX3_shifts 5 = .ok (.iload_n 1, 1) := by decide +kernel
theorem dX3_shifts_6 : decode cX3_shifts 6 = .ok (.bipush 40, 2) := by decide +kernel
theorem dX3_shifts_8 : decode cX3_shifts 8 = .ok (.if_icmp .le 5, 3) := by decide +kernel
theorem dX3_shifts_11 : decode cX3_shifts 11 = .ok (.iconst (-1), 1) := by decide +kernel
theorem dX3_shifts_12 : decode cX3_shifts 12 = .ok (.ireturn, 1) := by decide +kernel
theorem dX3_shifts_13 : decode cX3_shifts 13 = .ok (.aload_n 0, 1) := by decide +kernel
theorem dX3_shifts_14 : decode cX3_shifts 14 = .ok (.getfield 29, 3) := by decide +kernel
theorem dX3_shifts_17 : decode cX3_shifts 17 = .ok (.getfield 125, 3) := by decide +kernel
theorem dX3_shifts_20 : decode cX3_shifts 20 = .ok (.iload_n 1, 1) := by decide +kernel
theorem dX3_shifts_21 : decode cX3_shifts 21 = .ok (.iadd, 1) := by decide +kernel
theorem dX3_shifts_22 : decode cX3_shifts 22 = .ok (.sipush 9999, 3) := by decide +kernel
theorem dX3_shifts_25 : decode cX3_shifts 25 = .ok (.if_icmp .le 6, 3) := by decide +kernel
theorem dX3_shifts_28 : decode cX3_shifts 28 = .ok (.bipush (-2), 2) := by decide +kernel
theorem dX3_shifts_30 : decode cX3_shifts 30 = .ok (.ireturn, 1) := by decide +kernel
theorem dX3_shifts_31 : decode cX3_shifts 31 = .ok (.aload_n 0, 1) := by decide +kernel
theorem dX3_shifts_32 : decode cX3_shifts 32 = .ok (.getfield 29, 3) := by decide +kernel
theorem dX3_shifts_35 : decode cX3_shifts 35 = .ok (.aload_n 0, 1) := by decide +kernel
theorem dX3_shifts_36 : decode cX3_shifts 36 = .ok (.getfield 19, 3) := by decide +kernel
theorem dX3_shifts_39 : decode cX3_shifts 39 = .ok (.iload_n 1, 1) := by decide +kernel
theorem dX3_shifts_40 : decode cX3_shifts 40 = .ok (.invokevirtual 128, 3) := by decide +kernel
theorem dX3_shifts_43 : decode cX3_shifts 43 = .ok (.aload_n 0, 1) := by decide +kernel
theorem dX3_shifts_44 : decode cX3_shifts 44 = .ok (.getfield 29, 3) := by decide +kernel
theorem dX3_shifts_47 : decode cX3_shifts 47 = .ok (.getfield 125, 3) := by decide +kernel
theorem dX3_shifts_50 : decode cX3_shifts 50 = .ok (.ireturn, 1) := by decide +kernel
theorem dX3_done_0 : decode cX3_done 0 = .ok (.aload_n 0, 1) := by decide +kernel
theorem dX3_done_1 : decode cX3_done 1 = .ok (.iload_n 1, 1) := by decide +kernel
theorem dX3_done_2 : decode cX3_done 2 = .ok (.invokevirtual 89, 3) := by decide +kernel
theorem dX3_done_5 : decode cX3_done 5 = .ok (.ifCond .eq 11, 3) := by decide +kernel
theorem dX3_done_8 : decode cX3_done 8 = .ok (.aload_n 0, 1) := by decide +kernel
theorem dX3_done_9 : decode cX3_done 9 = .ok (.iload_n 2, 1) := by decide +kernel
theorem dX3_done_10 : decode cX3_done 10 = .ok (.invokevirtual 132, 3) := by decide +kernel
theorem dX3_done_13 : decode cX3_done 13 = .ok (.ifCond .ne 5, 3) := by decide +kernel
theorem dX3_done_16 : decode cX3_done 16 = .ok (.iconst (-1), 1) := by decide +kernel
theorem dX3_done_17 : decode cX3_done 17 = .ok (.ireturn, 1) := by decide +kernel
theorem dX3_done_18 : decode cX3_done 18 = .ok (.aload_n 0, 1) := by decide +kernel
theorem dX3_done_19 : decode cX3_done 19 = .ok (.getfield 19, 3) := by decide +kernel
theorem dX3_done_22 : decode cX3_done 22 = .ok (.iload_n 1, 1) := by decide +kernel
theorem dX3_done_23 : decode cX3_done 23 = .ok (.iload_n 2, 1) := by decide +kernel
theorem dX3_done_24 : decode cX3_done 24 = .ok (.aload_n 0, 1) := by decide +kernel
theorem dX3_done_25 : decode cX3_done 25 = .ok (.getfield 29, 3) := by decide +kernel
theorem dX3_done_28 : decode cX3_done 28 = .ok (.getfield 125, 3) := by decide +kernel
theorem dX3_done_31 : decode cX3_done 31 = .ok (.invokevirtual 135, 3) := by decide +kernel
theorem dX3_done_34 : decode cX3_done 34 = .ok (.ireturn, 1) := by decide +kernel
theorem dX3_handed_0 : decode cX3_handed 0 = .ok (.aload_n 0, 1) := by decide +kernel
theorem dX3_handed_1 : decode cX3_handed 1 = .ok (.iload_n 1, 1) := by decide +kernel
theorem dX3_handed_2 : decode cX3_handed 2 = .ok (.invokevirtual 89, 3) := by decide +kernel
theorem dX3_handed_5 : decode cX3_handed 5 = .ok (.ifCond .eq 11, 3) := by decide +kernel
theorem dX3_handed_8 : decode cX3_handed 8 = .ok (.aload_n 0, 1) := by decide +kernel
theorem dX3_handed_9 : decode cX3_handed 9 = .ok (.iload_n 2, 1) := by decide +kernel
theorem dX3_handed_10 : decode cX3_handed 10 = .ok (.invokevirtual 132, 3) := by decide +kernel
theorem dX3_handed_13 : decode cX3_handed 13 = .ok (.ifCond .ne 5, 3) := by decide +kernel
theorem dX3_handed_16 : decode cX3_handed 16 = .ok (.iconst (-1), 1) := by decide +kernel
theorem dX3_handed_17 : decode cX3_handed 17 = .ok (.ireturn, 1) := by decide +kernel
theorem dX3_handed_18 : decode cX3_handed 18 = .ok (.aload_n 0, 1) := by decide +kernel
theorem dX3_handed_19 : decode cX3_handed 19 = .ok (.getfield 19, 3) := by decide +kernel
theorem dX3_handed_22 : decode cX3_handed 22 = .ok (.iload_n 1, 1) := by decide +kernel
theorem dX3_handed_23 : decode cX3_handed 23 = .ok (.iload_n 2, 1) := by decide +kernel
theorem dX3_handed_24 : decode cX3_handed 24 = .ok (.invokevirtual 139, 3) := by decide +kernel
theorem dX3_handed_27 : decode cX3_handed 27 = .ok (.ireturn, 1) := by decide +kernel
theorem dX3_best_0 : decode cX3_best 0 = .ok (.aload_n 0, 1) := by decide +kernel
theorem dX3_best_1 : decode cX3_best 1 = .ok (.iload_n 1, 1) := by decide +kernel
theorem dX3_best_2 : decode cX3_best 2 = .ok (.invokevirtual 132, 3) := by decide +kernel
theorem dX3_best_5 : decode cX3_best 5 = .ok (.ifCond .ne 5, 3) := by decide +kernel
theorem dX3_best_8 : decode cX3_best 8 = .ok (.iconst (-1), 1) := by decide +kernel
theorem dX3_best_9 : decode cX3_best 9 = .ok (.ireturn, 1) := by decide +kernel
theorem dX3_best_10 : decode cX3_best 10 = .ok (.bipush (-4), 2) := by decide +kernel
theorem dX3_best_12 : decode cX3_best 12 = .ok (.istore_n 2, 1) := by decide +kernel
theorem dX3_best_13 : decode cX3_best 13 = .ok (.bipush (-4), 2) := by decide +kernel
theorem dX3_best_15 : decode cX3_best 15 = .ok (.istore_n 3, 1) := by decide +kernel
theorem dX3_best_16 : decode cX3_best 16 = .ok (.iconst 0, 1) := by decide +kernel
theorem dX3_best_17 : decode cX3_best 17 = .ok (.istore 4, 2) := by decide +kernel
theorem dX3_best_19 : decode cX3_best 19 = .ok (.iload 4, 2) := by decide +kernel
theorem dX3_best_21 : decode cX3_best 21 = .ok (.aload_n 0, 1) := by decide +kernel
theorem dX3_best_22 : decode cX3_best 22 = .ok (.getfield 19, 3) := by decide +kernel
theorem dX3_best_25 : decode cX3_best 25 = .ok (.getfield 80, 3) := by decide +kernel
theorem dX3_best_28 : decode cX3_best 28 = .ok (.if_icmp .ge 53, 3) := by decide +kernel
theorem dX3_best_31 : decode cX3_best 31 = .ok (.aload_n 0, 1) := by decide +kernel
theorem dX3_best_32 : decode cX3_best 32 = .ok (.getfield 19, 3) := by decide +kernel
theorem dX3_best_35 : decode cX3_best 35 = .ok (.iload 4, 2) := by decide +kernel
theorem dX3_best_37 : decode cX3_best 37 = .ok (.iload_n 1, 1) := by decide +kernel
theorem dX3_best_38 : decode cX3_best 38 = .ok (.aload_n 0, 1) := by decide +kernel
theorem dX3_best_39 : decode cX3_best 39 = .ok (.getfield 29, 3) := by decide +kernel
theorem dX3_best_42 : decode cX3_best 42 = .ok (.getfield 125, 3) := by decide +kernel
theorem dX3_best_45 : decode cX3_best 45 = .ok (.invokevirtual 135, 3) := by decide +kernel
theorem dX3_best_48 : decode cX3_best 48 = .ok (.istore 5, 2) := by decide +kernel
theorem dX3_best_50 : decode cX3_best 50 = .ok (.iload 5, 2) := by decide +kernel
theorem dX3_best_52 : decode cX3_best 52 = .ok (.bipush (-4), 2) := by decide +kernel
theorem dX3_best_54 : decode cX3_best 54 = .ok (.if_icmp .eq 21, 3) := by decide +kernel
theorem dX3_best_57 : decode cX3_best 57 = .ok (.iload_n 3, 1) := by decide +kernel
theorem dX3_best_58 : decode cX3_best 58 = .ok (.bipush (-4), 2) := by decide +kernel
theorem dX3_best_60 : decode cX3_best 60 = .ok (.if_icmp .eq 9, 3) := by decide +kernel
theorem dX3_best_63 : decode cX3_best 63 = .ok (.iload 5, 2) := by decide +kernel
theorem dX3_best_65 : decode cX3_best 65 = .ok (.iload_n 2, 1) := by decide +kernel
theorem dX3_best_66 : decode cX3_best 66 = .ok (.if_icmp .ge 9, 3) := by decide +kernel
theorem dX3_best_69 : decode cX3_best 69 = .ok (.iload 5, 2) := by decide +kernel
theorem dX3_best_71 : decode cX3_best 71 = .ok (.istore_n 2, 1) := by decide +kernel
theorem dX3_best_72 : decode cX3_best 72 = .ok (.iload 4, 2) := by decide +kernel
theorem dX3_best_74 : decode cX3_best 74 = .ok (.istore_n 3, 1) := by decide +kernel
theorem dX3_best_75 : decode cX3_best 75 = .ok (.iinc 4 1, 3) := by decide +kernel
theorem dX3_best_78 : decode cX3_best 78 = .ok (.goto (-59), 3) := by decide +kernel
theorem dX3_best_81 : decode cX3_best 81 = .ok (.iload_n 3, 1) := by decide +kernel
theorem dX3_best_82 : decode cX3_best 82 = .ok (.ireturn, 1) := by decide +kernel
theorem dX3_knows_0 : decode cX3_knows 0 = .ok (.iload_n 1, 1) := by decide +kernel
theorem dX3_knows_1 : decode cX3_knows 1 = .ok (.invokestatic 143, 3) := by decide +kernel
theorem dX3_knows_4 : decode cX3_knows 4 = .ok (.ifCond .eq 18, 3) := by decide +kernel
theorem dX3_knows_7 : decode cX3_knows 7 = .ok (.aload_n 0, 1) := by decide +kernel
theorem dX3_knows_8 : decode cX3_knows 8 = .ok (.iload_n 2, 1) := by decide +kernel
theorem dX3_knows_9 : decode cX3_knows 9 = .ok (.invokevirtual 89, 3) := by decide +kernel
theorem dX3_knows_12 : decode cX3_knows 12 = .ok (.ifCond .eq 10, 3) := by decide +kernel
theorem dX3_knows_15 : decode cX3_knows 15 = .ok (.iload_n 3, 1) := by decide +kernel
theorem dX3_knows_16 : decode cX3_knows 16 = .ok (.invokestatic 92, 3) := by decide +kernel
theorem dX3_knows_19 : decode cX3_knows 19 = .ok (.ifCond .ne 5, 3) := by decide +kernel
theorem dX3_knows_22 : decode cX3_knows 22 = .ok (.iconst (-1), 1) := by decide +kernel
theorem dX3_knows_23 : decode cX3_knows 23 = .ok (.ireturn, 1) := by decide +kernel
theorem dX3_knows_24 : decode cX3_knows 24 = .ok (.aload_n 0, 1) := by decide +kernel
theorem dX3_knows_25 : decode cX3_knows 25 = .ok (.getfield 33, 3) := by decide +kernel
theorem dX3_knows_28 : decode cX3_knows 28 = .ok (.aload_n 0, 1) := by decide +kernel
theorem dX3_knows_29 : decode cX3_knows 29 = .ok (.getfield 29, 3) := by decide +kernel
theorem dX3_knows_32 : decode cX3_knows 32 = .ok (.invokevirtual 146, 3) := by decide +kernel
theorem dX3_knows_35 : decode cX3_knows 35 = .ok (.aload_n 0, 1) := by decide +kernel
theorem dX3_knows_36 : decode cX3_knows 36 = .ok (.getfield 33, 3) := by decide +kernel
theorem dX3_knows_39 : decode cX3_knows 39 = .ok (.aload_n 0, 1) := by decide +kernel
theorem dX3_knows_40 : decode cX3_knows 40 = .ok (.getfield 19, 3) := by decide +kernel
theorem dX3_knows_43 : decode cX3_knows 43 = .ok (.iload_n 1, 1) := by decide +kernel
theorem dX3_knows_44 : decode cX3_knows 44 = .ok (.invokevirtual 128, 3) := by decide +kernel
theorem dX3_knows_47 : decode cX3_knows 47 = .ok (.aload_n 0, 1) := by decide +kernel
theorem dX3_knows_48 : decode cX3_knows 48 = .ok (.getfield 33, 3) := by decide +kernel
theorem dX3_knows_51 : decode cX3_knows 51 = .ok (.getfield 98, 3) := by decide +kernel
theorem dX3_knows_54 : decode cX3_knows 54 = .ok (.iconst 2, 1) := by decide +kernel
theorem dX3_knows_55 : decode cX3_knows 55 = .ok (.iload_n 2, 1) := by decide +kernel
theorem dX3_knows_56 : decode cX3_knows 56 = .ok (.imul, 1) := by decide +kernel
theorem dX3_knows_57 : decode cX3_knows 57 = .ok (.iload_n 3, 1) := by decide +kernel
theorem dX3_knows_58 : decode cX3_knows 58 = .ok (.iadd, 1) := by decide +kernel
theorem dX3_knows_59 : decode cX3_knows 59 = .ok (.iaload, 1) := by decide +kernel
theorem dX3_knows_60 : decode cX3_knows 60 = .ok (.ireturn, 1) := by decide +kernel
theorem dX3_could_0 : decode cX3_could 0 = .ok (.iload_n 1, 1) := by decide +kernel
theorem dX3_could_1 : decode cX3_could 1 = .ok (.invokestatic 143, 3) := by decide +kernel
theorem dX3_could_4 : decode cX3_could 4 = .ok (.ifCond .eq 10, 3) := by decide +kernel
theorem dX3_could_7 : decode cX3_could 7 = .ok (.iload_n 2, 1) := by decide +kernel
theorem dX3_could_8 : decode cX3_could 8 = .ok (.invokestatic 119, 3) := by decide +kernel
theorem dX3_could_11 : decode cX3_could 11 = .ok (.ifCond .ne 5, 3) := by decide +kernel
theorem dX3_could_14 : decode cX3_could 14 = .ok (.iconst (-1), 1) := by decide +kernel
theorem dX3_could_15 : decode cX3_could 15 = .ok (.ireturn, 1) := by decide +kernel
theorem dX3_could_16 : decode cX3_could 16 = .ok (.aload_n 0, 1) := by decide +kernel
theorem dX3_could_17 : decode cX3_could 17 = .ok (.getfield 33, 3) := by decide +kernel
theorem dX3_could_20 : decode cX3_could 20 = .ok (.aload_n 0, 1) := by decide +kernel
theorem dX3_could_21 : decode cX3_could 21 = .ok (.getfield 29, 3) := by decide +kernel
theorem dX3_could_24 : decode cX3_could 24 = .ok (.invokevirtual 146, 3) := by decide +kernel
theorem dX3_could_27 : decode cX3_could 27 = .ok (.aload_n 0, 1) := by decide +kernel
theorem dX3_could_28 : decode cX3_could 28 = .ok (.getfield 33, 3) := by decide +kernel
theorem dX3_could_31 : decode cX3_could 31 = .ok (.aload_n 0, 1) := by decide +kernel
theorem dX3_could_32 : decode cX3_could 32 = .ok (.getfield 19, 3) := by decide +kernel
theorem dX3_could_35 : decode cX3_could 35 = .ok (.iload_n 1, 1) := by decide +kernel
theorem dX3_could_36 : decode cX3_could 36 = .ok (.invokevirtual 128, 3) := by decide +kernel
theorem dX3_could_39 : decode cX3_could 39 = .ok (.aload_n 0, 1) := by decide +kernel
theorem dX3_could_40 : decode cX3_could 40 = .ok (.getfield 33, 3) := by decide +kernel
theorem dX3_could_43 : decode cX3_could 43 = .ok (.iload_n 2, 1) := by decide +kernel
theorem dX3_could_44 : decode cX3_could 44 = .ok (.aload_n 0, 1) := by decide +kernel
theorem dX3_could_45 : decode cX3_could 45 = .ok (.getfield 19, 3) := by decide +kernel
theorem dX3_could_48 : decode cX3_could 48 = .ok (.getfield 80, 3) := by decide +kernel
theorem dX3_could_51 : decode cX3_could 51 = .ok (.invokevirtual 150, 3) := by decide +kernel
theorem dX3_could_54 : decode cX3_could 54 = .ok (.ireturn, 1) := by decide +kernel
theorem dX3_alike_0 : decode cX3_alike 0 = .ok (.aload_n 0, 1) := by decide +kernel
theorem dX3_alike_1 : decode cX3_alike 1 = .ok (.iload_n 1, 1) := by decide +kernel
theorem dX3_alike_2 : decode cX3_alike 2 = .ok (.invokevirtual 89, 3) := by decide +kernel
theorem dX3_alike_5 : decode cX3_alike 5 = .ok (.ifCond .ne 5, 3) := by decide +kernel
theorem dX3_alike_8 : decode cX3_alike 8 = .ok (.iconst (-1), 1) := by decide +kernel
theorem dX3_alike_9 : decode cX3_alike 9 = .ok (.ireturn, 1) := by decide +kernel
theorem dX3_alike_10 : decode cX3_alike 10 = .ok (.aload_n 0, 1) := by decide +kernel
theorem dX3_alike_11 : decode cX3_alike 11 = .ok (.getfield 33, 3) := by decide +kernel
theorem dX3_alike_14 : decode cX3_alike 14 = .ok (.aload_n 0, 1) := by decide +kernel
theorem dX3_alike_15 : decode cX3_alike 15 = .ok (.getfield 29, 3) := by decide +kernel
theorem dX3_alike_18 : decode cX3_alike 18 = .ok (.invokevirtual 146, 3) := by decide +kernel
theorem dX3_alike_21 : decode cX3_alike 21 = .ok (.iconst 0, 1) := by decide +kernel
theorem dX3_alike_22 : decode cX3_alike 22 = .ok (.istore_n 2, 1) := by decide +kernel
theorem dX3_alike_23 : decode cX3_alike 23 = .ok (.iload_n 2, 1) := by decide +kernel
theorem dX3_alike_24 : decode cX3_alike 24 = .ok (.bipush 40, 2) := by decide +kernel
theorem dX3_alike_26 : decode cX3_alike 26 = .ok (.if_icmp .gt 50, 3) := by decide +kernel
theorem dX3_alike_29 : decode cX3_alike 29 = .ok (.aload_n 0, 1) := by decide +kernel
theorem dX3_alike_30 : decode cX3_alike 30 = .ok (.getfield 33, 3) := by decide +kernel
theorem dX3_alike_33 : decode cX3_alike 33 = .ok (.getfield 98, 3) := by decide +kernel
theorem dX3_alike_36 : decode cX3_alike 36 = .ok (.iconst 2, 1) := by decide +kernel
theorem dX3_alike_37 : decode cX3_alike 37 = .ok (.iload_n 1, 1) := by decide +kernel
theorem dX3_alike_38 : decode cX3_alike 38 = .ok (.imul, 1) := by decide +kernel
theorem dX3_alike_39 : decode cX3_alike 39 = .ok (.iaload, 1) := by decide +kernel
theorem dX3_alike_40 : decode cX3_alike 40 = .ok (.aload_n 0, 1) := by decide +kernel
theorem dX3_alike_41 : decode cX3_alike 41 = .ok (.getfield 33, 3) := by decide +kernel
theorem dX3_alike_44 : decode cX3_alike 44 = .ok (.getfield 98, 3) := by decide +kernel
theorem dX3_alike_47 : decode cX3_alike 47 = .ok (.iconst 2, 1) := by decide +kernel
theorem dX3_alike_48 : decode cX3_alike 48 = .ok (.iload_n 1, 1) := by decide +kernel
theorem dX3_alike_49 : decode cX3_alike 49 = .ok (.imul, 1) := by decide +kernel
theorem dX3_alike_50 : decode cX3_alike 50 = .ok (.iconst 1, 1) := by decide +kernel
theorem dX3_alike_51 : decode cX3_alike 51 = .ok (.iadd, 1) := by decide +kernel
theorem dX3_alike_52 : decode cX3_alike 52 = .ok (.iaload, 1) := by decide +kernel
theorem dX3_alike_53 : decode cX3_alike 53 = .ok (.if_icmp .ne 5, 3) := by decide +kernel
theorem dX3_alike_56 : decode cX3_alike 56 = .ok (.iload_n 2, 1) := by decide +kernel
theorem dX3_alike_57 : decode cX3_alike 57 = .ok (.ireturn, 1) := by decide +kernel
theorem dX3_alike_58 : decode cX3_alike 58 = .ok (.aload_n 0, 1) := by decide +kernel
theorem dX3_alike_59 : decode cX3_alike 59 = .ok (.getfield 33, 3) := by decide +kernel
theorem dX3_alike_62 : decode cX3_alike 62 = .ok (.aload_n 0, 1) := by decide +kernel
theorem dX3_alike_63 : decode cX3_alike 63 = .ok (.getfield 19, 3) := by decide +kernel
theorem dX3_alike_66 : decode cX3_alike 66 = .ok (.iconst 1, 1) := by decide +kernel
theorem dX3_alike_67 : decode cX3_alike 67 = .ok (.invokevirtual 128, 3) := by decide +kernel
theorem dX3_alike_70 : decode cX3_alike 70 = .ok (.iinc 2 1, 3) := by decide +kernel
theorem dX3_alike_73 : decode cX3_alike 73 = .ok (.goto (-50), 3) := by decide +kernel
theorem dX3_alike_76 : decode cX3_alike 76 = .ok (.bipush (-4), 2) := by decide +kernel
theorem dX3_alike_78 : decode cX3_alike 78 = .ok (.ireturn, 1) := by decide +kernel
theorem dX3_purse_0 : decode cX3_purse 0 = .ok (.iload_n 1, 1) := by decide +kernel
theorem dX3_purse_1 : decode cX3_purse 1 = .ok (.invokestatic 153, 3) := by decide +kernel
theorem dX3_purse_4 : decode cX3_purse 4 = .ok (.ifCond .eq 17, 3) := by decide +kernel
theorem dX3_purse_7 : decode cX3_purse 7 = .ok (.iload_n 2, 1) := by decide +kernel
theorem dX3_purse_8 : decode cX3_purse 8 = .ok (.invokestatic 153, 3) := by decide +kernel
theorem dX3_purse_11 : decode cX3_purse 11 = .ok (.ifCond .eq 10, 3) := by decide +kernel
theorem dX3_purse_14 : decode cX3_purse 14 = .ok (.iload_n 3, 1) := by decide +kernel
theorem dX3_purse_15 : decode cX3_purse 15 = .ok (.invokestatic 92, 3) := by decide +kernel
theorem dX3_purse_18 : decode cX3_purse 18 = .ok (.ifCond .ne 5, 3) := by decide +kernel
theorem dX3_purse_21 : decode cX3_purse 21 = .ok (.iconst (-1), 1) := by decide +kernel
theorem dX3_purse_22 : decode cX3_purse 22 = .ok (.ireturn, 1) := by decide +kernel
theorem dX3_purse_23 : decode cX3_purse 23 = .ok (.aload_n 0, 1) := by decide +kernel
theorem dX3_purse_24 : decode cX3_purse 24 = .ok (.getfield 19, 3) := by decide +kernel
theorem dX3_purse_27 : decode cX3_purse 27 = .ok (.iload_n 1, 1) := by decide +kernel
theorem dX3_purse_28 : decode cX3_purse 28 = .ok (.iload_n 2, 1) := by decide +kernel
theorem dX3_purse_29 : decode cX3_purse 29 = .ok (.iload_n 3, 1) := by decide +kernel
theorem dX3_purse_30 : decode cX3_purse 30 = .ok (.invokevirtual 156, 3) := by decide +kernel
theorem dX3_purse_33 : decode cX3_purse 33 = .ok (.ireturn, 1) := by decide +kernel
theorem dX3_rests_0 : decode cX3_rests 0 = .ok (.iload_n 1, 1) := by decide +kernel
theorem dX3_rests_1 : decode cX3_rests 1 = .ok (.ifCond .lt 8, 3) := by decide +kernel
theorem dX3_rests_4 : decode cX3_rests 4 = .ok (.iload_n 1, 1) := by decide +kernel
theorem dX3_rests_5 : decode cX3_rests 5 = .ok (.iconst 2, 1) := by decide +kernel
theorem dX3_rests_6 : decode cX3_rests 6 = .ok (.if_icmp .le 5, 3) := by decide +kernel
theorem dX3_rests_9 : decode cX3_rests 9 = .ok (.iconst (-1), 1) := by decide +kernel
theorem dX3_rests_10 : decode cX3_rests 10 = .ok (.ireturn, 1) := by decide +kernel
theorem dX3_rests_11 : decode cX3_rests 11 = .ok (.aload_n 0, 1) := by decide +kernel
theorem dX3_rests_12 : decode cX3_rests 12 = .ok (.invokevirtual 159, 3) := by decide +kernel
theorem dX3_rests_15 : decode cX3_rests 15 = .ok (.iconst 0, 1) := by decide +kernel
theorem dX3_rests_16 : decode cX3_rests 16 = .ok (.istore_n 2, 1) := by decide +kernel
theorem dX3_rests_17 : decode cX3_rests 17 = .ok (.bipush (-4), 2) := by decide +kernel
theorem dX3_rests_19 : decode cX3_rests 19 = .ok (.istore_n 3, 1) := by decide +kernel
theorem dX3_rests_20 : decode cX3_rests 20 = .ok (.iconst 0, 1) := by decide +kernel
theorem dX3_rests_21 : decode cX3_rests 21 = .ok (.istore 4, 2) := by decide +kernel
theorem dX3_rests_23 : decode cX3_rests 23 = .ok (.iload 4, 2) := by decide +kernel
theorem dX3_rests_25 : decode cX3_rests 25 = .ok (.bipush 10, 2) := by decide +kernel
theorem dX3_rests_27 : decode cX3_rests 27 = .ok (.if_icmp .ge 89, 3) := by decide +kernel
theorem dX3_rests_30 : decode cX3_rests 30 = .ok (.iconst 0, 1) := by decide +kernel
theorem dX3_rests_31 : decode cX3_rests 31 = .ok (.istore 5, 2) := by decide +kernel
theorem dX3_rests_33 : decode cX3_rests 33 = .ok (.iload 5, 2) := by decide +kernel
theorem dX3_rests_35 : decode cX3_rests 35 = .ok (.bipush 10, 2) := by decide +kernel
theorem dX3_rests_37 : decode cX3_rests 37 = .ok (.if_icmp .ge 73, 3) := by decide +kernel
theorem dX3_rests_40 : decode cX3_rests 40 = .ok (.aload_n 0, 1) := by decide +kernel
theorem dX3_rests_41 : decode cX3_rests 41 = .ok (.getfield 19, 3) := by decide +kernel
theorem dX3_rests_44 : decode cX3_rests 44 = .ok (.iload 4, 2) := by decide +kernel
theorem dX3_rests_46 : decode cX3_rests 46 = .ok (.iload 5, 2) := by decide +kernel
theorem dX3_rests_48 : decode cX3_rests 48 = .ok (.iconst 0, 1) := by decide +kernel
theorem dX3_rests_49 : decode cX3_rests 49 = .ok (.invokevirtual 156, 3) := by decide +kernel
theorem dX3_rests_52 : decode cX3_rests 52 = .ok (.aload_n 0, 1) := by decide +kernel
theorem dX3_rests_53 : decode cX3_rests 53 = .ok (.getfield 46, 3) := by decide +kernel
theorem dX3_rests_56 : decode cX3_rests 56 = .ok (.iload 5, 2) := by decide +kernel
theorem dX3_rests_58 : decode cX3_rests 58 = .ok (.iaload, 1) := by decide +kernel
theorem dX3_rests_59 : decode cX3_rests 59 = .ok (.if_icmp .ne 45, 3) := by decide +kernel
theorem dX3_rests_62 : decode cX3_rests 62 = .ok (.aload_n 0, 1) := by decide +kernel
theorem dX3_rests_63 : decode cX3_rests 63 = .ok (.getfield 19, 3) := by decide +kernel
theorem dX3_rests_66 : decode cX3_rests 66 = .ok (.iload 4, 2) := by decide +kernel
theorem dX3_rests_68 : decode cX3_rests 68 = .ok (.iload 5, 2) := by decide +kernel
theorem dX3_rests_70 : decode cX3_rests 70 = .ok (.iconst 1, 1) := by decide +kernel
theorem dX3_rests_71 : decode cX3_rests 71 = .ok (.invokevirtual 156, 3) := by decide +kernel
theorem dX3_rests_74 : decode cX3_rests 74 = .ok (.aload_n 0, 1) := by decide +kernel
theorem dX3_rests_75 : decode cX3_rests 75 = .ok (.getfield 49, 3) := by decide +kernel
theorem dX3_rests_78 : decode cX3_rests 78 = .ok (.iload 4, 2) := by decide +kernel
theorem dX3_rests_80 : decode cX3_rests 80 = .ok (.iaload, 1) := by decide +kernel
theorem dX3_rests_81 : decode cX3_rests 81 = .ok (.if_icmp .ne 23, 3) := by decide +kernel
theorem dX3_rests_84 : decode cX3_rests 84 = .ok (.iload_n 2, 1) := by decide +kernel
theorem dX3_rests_85 : decode cX3_rests 85 = .ok (.ifCond .ne 14, 3) := by decide +kernel
theorem dX3_rests_88 : decode cX3_rests 88 = .ok (.bipush 10, 2) := by decide +kernel
theorem dX3_rests_90 : decode cX3_rests 90 = .ok (.iload 4, 2) := by decide +kernel
theorem dX3_rests_92 : decode cX3_rests 92 = .ok (.imul, 1) := by decide +kernel
theorem dX3_rests_93 : decode cX3_rests 93 = .ok (.iload 5, 2) := by decide +kernel
theorem dX3_rests_95 : decode cX3_rests 95 = .ok (.iadd, 1) := by decide +kernel
theorem dX3_rests_96 : decode cX3_rests 96 = .ok (.goto 4, 3) := by decide +kernel
theorem dX3_rests_99 : decode cX3_rests 99 = .ok (.iload_n 3, 1) := by decide +kernel
theorem dX3_rests_100 : decode cX3_rests 100 = .ok (.istore_n 3, 1) := by decide +kernel
theorem dX3_rests_101 : decode cX3_rests 101 = .ok (.iinc 2 1, 3) := by decide +kernel
theorem dX3_rests_104 : decode cX3_rests 104 = .ok (.iinc 5 1, 3) := by decide +kernel
theorem dX3_rests_107 : decode cX3_rests 107 = .ok (.goto (-74), 3) := by decide +kernel
theorem dX3_rests_110 : decode cX3_rests 110 = .ok (.iinc 4 1, 3) := by decide +kernel
theorem dX3_rests_113 : decode cX3_rests 113 = .ok (.goto (-90), 3) := by decide +kernel
theorem dX3_rests_116 : decode cX3_rests 116 = .ok (.iload_n 1, 1) := by decide +kernel
theorem dX3_rests_117 : decode cX3_rests 117 = .ok (.ifCond .ne 5, 3) := by decide +kernel
theorem dX3_rests_120 : decode cX3_rests 120 = .ok (.iload_n 2, 1) := by decide +kernel
theorem dX3_rests_121 : decode cX3_rests 121 = .ok (.ireturn, 1) := by decide +kernel
theorem dX3_rests_122 : decode cX3_rests 122 = .ok (.iload_n 3, 1) := by decide +kernel
theorem dX3_rests_123 : decode cX3_rests 123 = .ok (.bipush (-4), 2) := by decide +kernel
theorem dX3_rests_125 : decode cX3_rests 125 = .ok (.if_icmp .ne 6, 3) := by decide +kernel
theorem dX3_rests_128 : decode cX3_rests 128 = .ok (.bipush (-4), 2) := by decide +kernel
theorem dX3_rests_130 : decode cX3_rests 130 = .ok (.ireturn, 1) := by decide +kernel
theorem dX3_rests_131 : decode cX3_rests 131 = .ok (.iload_n 1, 1) := by decide +kernel
theorem dX3_rests_132 : decode cX3_rests 132 = .ok (.iconst 1, 1) := by decide +kernel
theorem dX3_rests_133 : decode cX3_rests 133 = .ok (.if_icmp .ne 10, 3) := by decide +kernel
theorem dX3_rests_136 : decode cX3_rests 136 = .ok (.iload_n 3, 1) := by decide +kernel
theorem dX3_rests_137 : decode cX3_rests 137 = .ok (.bipush 10, 2) := by decide +kernel
theorem dX3_rests_139 : decode cX3_rests 139 = .ok (.idiv, 1) := by decide +kernel
theorem dX3_rests_140 : decode cX3_rests 140 = .ok (.goto 7, 3) := by decide +kernel
theorem dX3_rests_143 : decode cX3_rests 143 = .ok (.iload_n 3, 1) := by decide +kernel
theorem dX3_rests_144 : decode cX3_rests 144 = .ok (.bipush 10, 2) := by decide +kernel
theorem dX3_rests_146 : decode cX3_rests 146 = .ok (.irem, 1) := by decide +kernel
theorem dX3_rests_147 : decode cX3_rests 147 = .ok (.ireturn, 1) := by decide +kernel
theorem dX3_camps_0 : decode cX3_camps 0 = .ok (.iload_n 1, 1) := by decide +kernel
theorem dX3_camps_1 : decode cX3_camps 1 = .ok (.ifCond .lt 8, 3) := by decide +kernel
theorem dX3_camps_4 : decode cX3_camps 4 = .ok (.iload_n 1, 1) := by decide +kernel
theorem dX3_camps_5 : decode cX3_camps 5 = .ok (.iconst 1, 1) := by decide +kernel
theorem dX3_camps_6 : decode cX3_camps 6 = .ok (.if_icmp .le 5, 3) := by decide +kernel
theorem dX3_camps_9 : decode cX3_camps 9 = .ok (.iconst (-1), 1) := by decide +kernel
theorem dX3_camps_10 : decode cX3_camps 10 = .ok (.ireturn, 1) := by decide +kernel
theorem dX3_camps_11 : decode cX3_camps 11 = .ok (.iconst 0, 1) := by decide +kernel
theorem dX3_camps_12 : decode cX3_camps 12 = .ok (.istore_n 2, 1) := by decide +kernel
theorem dX3_camps_13 : decode cX3_camps 13 = .ok (.aload_n 0, 1) := by decide +kernel
theorem dX3_camps_14 : decode cX3_camps 14 = .ok (.getfield 19, 3) := by decide +kernel
theorem dX3_camps_17 : decode cX3_camps 17 = .ok (.iconst 0, 1) := by decide +kernel
theorem dX3_camps_18 : decode cX3_camps 18 = .ok (.invokevirtual 162, 3) := by decide +kernel
theorem dX3_camps_21 : decode cX3_camps 21 = .ok (.istore_n 3, 1) := by decide +kernel
theorem dX3_camps_22 : decode cX3_camps 22 = .ok (.iconst 1, 1) := by decide +kernel
theorem dX3_camps_23 : decode cX3_camps 23 = .ok (.istore 4, 2) := by decide +kernel
theorem dX3_camps_25 : decode cX3_camps 25 = .ok (.iload 4, 2) := by decide +kernel
theorem dX3_camps_27 : decode cX3_camps 27 = .ok (.iconst 1, 1) := by decide +kernel
theorem dX3_camps_28 : decode cX3_camps 28 = .ok (.aload_n 0, 1) := by decide +kernel
theorem dX3_camps_29 : decode cX3_camps 29 = .ok (.getfield 19, 3) := by decide +kernel
theorem dX3_camps_32 : decode cX3_camps 32 = .ok (.getfield 80, 3) := by decide +kernel
theorem dX3_camps_35 : decode cX3_camps 35 = .ok (.ishl, 1) := by decide +kernel
theorem dX3_camps_36 : decode cX3_camps 36 = .ok (.if_icmp .ge 32, 3) := by decide +kernel
theorem dX3_camps_39 : decode cX3_camps 39 = .ok (.aload_n 0, 1) := by decide +kernel
theorem dX3_camps_40 : decode cX3_camps 40 = .ok (.getfield 19, 3) := by decide +kernel
theorem dX3_camps_43 : decode cX3_camps 43 = .ok (.iload 4, 2) := by decide +kernel
theorem dX3_camps_45 : decode cX3_camps 45 = .ok (.invokevirtual 162, 3) := by decide +kernel
theorem dX3_camps_48 : decode cX3_camps 48 = .ok (.istore 5, 2) := by decide +kernel
theorem dX3_camps_50 : decode cX3_camps 50 = .ok (.iload 5, 2) := by decide +kernel
theorem dX3_camps_52 : decode cX3_camps 52 = .ok (.iload_n 3, 1) := by decide +kernel
theorem dX3_camps_53 : decode cX3_camps 53 = .ok (.if_icmp .ge 9, 3) := by decide +kernel
theorem dX3_camps_56 : decode cX3_camps 56 = .ok (.iload 5, 2) := by decide +kernel
theorem dX3_camps_58 : decode cX3_camps 58 = .ok (.istore_n 3, 1) := by decide +kernel
theorem dX3_camps_59 : decode cX3_camps 59 = .ok (.iload 4, 2) := by decide +kernel
theorem dX3_camps_61 : decode cX3_camps 61 = .ok (.istore_n 2, 1) := by decide +kernel
theorem dX3_camps_62 : decode cX3_camps 62 = .ok (.iinc 4 1, 3) := by decide +kernel
theorem dX3_camps_65 : decode cX3_camps 65 = .ok (.goto (-40), 3) := by decide +kernel
theorem dX3_camps_68 : decode cX3_camps 68 = .ok (.iload_n 1, 1) := by decide +kernel
theorem dX3_camps_69 : decode cX3_camps 69 = .ok (.ifCond .ne 7, 3) := by decide +kernel
theorem dX3_camps_72 : decode cX3_camps 72 = .ok (.iload_n 3, 1) := by decide +kernel
theorem dX3_camps_73 : decode cX3_camps 73 = .ok (.goto 4, 3) := by decide +kernel
theorem dX3_camps_76 : decode cX3_camps 76 = .ok (.iload_n 2, 1) := by decide +kernel
theorem dX3_camps_77 : decode cX3_camps 77 = .ok (.ireturn, 1) := by decide +kernel
theorem dX3_seen_0 : decode cX3_seen 0 = .ok (.iload_n 1, 1) := by decide +kernel
theorem dX3_seen_1 : decode cX3_seen 1 = .ok (.invokestatic 143, 3) := by decide +kernel
theorem dX3_seen_4 : decode cX3_seen 4 = .ok (.ifCond .eq 10, 3) := by decide +kernel
theorem dX3_seen_7 : decode cX3_seen 7 = .ok (.iload_n 2, 1) := by decide +kernel
theorem dX3_seen_8 : decode cX3_seen 8 = .ok (.invokestatic 119, 3) := by decide +kernel
theorem dX3_seen_11 : decode cX3_seen 11 = .ok (.ifCond .ne 5, 3) := by decide +kernel
theorem dX3_seen_14 : decode cX3_seen 14 = .ok (.iconst (-1), 1) := by decide +kernel
theorem dX3_seen_15 : decode cX3_seen 15 = .ok (.ireturn, 1) := by decide +kernel
theorem dX3_seen_16 : decode cX3_seen 16 = .ok (.aload_n 0, 1) := by decide +kernel
theorem dX3_seen_17 : decode cX3_seen 17 = .ok (.getfield 83, 3) := by decide +kernel
theorem dX3_seen_20 : decode cX3_seen 20 = .ok (.bipush 10, 2) := by decide +kernel
theorem dX3_seen_22 : decode cX3_seen 22 = .ok (.if_icmp .lt 6, 3) := by decide +kernel
theorem dX3_seen_25 : decode cX3_seen 25 = .ok (.bipush (-3), 2) := by decide +kernel
theorem dX3_seen_27 : decode cX3_seen 27 = .ok (.ireturn, 1) := by decide +kernel
theorem dX3_seen_28 : decode cX3_seen 28 = .ok (.aload_n 0, 1) := by decide +kernel
theorem dX3_seen_29 : decode cX3_seen 29 = .ok (.getfield 33, 3) := by decide +kernel
theorem dX3_seen_32 : decode cX3_seen 32 = .ok (.aload_n 0, 1) := by decide +kernel
theorem dX3_seen_33 : decode cX3_seen 33 = .ok (.getfield 19, 3) := by decide +kernel
theorem dX3_seen_36 : decode cX3_seen 36 = .ok (.invokevirtual 64, 3) := by decide +kernel
theorem dX3_seen_39 : decode cX3_seen 39 = .ok (.aload_n 0, 1) := by decide +kernel
theorem dX3_seen_40 : decode cX3_seen 40 = .ok (.getfield 33, 3) := by decide +kernel
theorem dX3_seen_43 : decode cX3_seen 43 = .ok (.aload_n 0, 1) := by decide +kernel
theorem dX3_seen_44 : decode cX3_seen 44 = .ok (.getfield 19, 3) := by decide +kernel
theorem dX3_seen_47 : decode cX3_seen 47 = .ok (.iload_n 1, 1) := by decide +kernel
theorem dX3_seen_48 : decode cX3_seen 48 = .ok (.invokevirtual 128, 3) := by decide +kernel
theorem dX3_seen_51 : decode cX3_seen 51 = .ok (.aload_n 0, 1) := by decide +kernel
theorem dX3_seen_52 : decode cX3_seen 52 = .ok (.getfield 42, 3) := by decide +kernel
theorem dX3_seen_55 : decode cX3_seen 55 = .ok (.aload_n 0, 1) := by decide +kernel
theorem dX3_seen_56 : decode cX3_seen 56 = .ok (.getfield 83, 3) := by decide +kernel
theorem dX3_seen_59 : decode cX3_seen 59 = .ok (.aload_n 0, 1) := by decide +kernel
theorem dX3_seen_60 : decode cX3_seen 60 = .ok (.getfield 33, 3) := by decide +kernel
theorem dX3_seen_63 : decode cX3_seen 63 = .ok (.iload_n 2, 1) := by decide +kernel
theorem dX3_seen_64 : decode cX3_seen 64 = .ok (.aload_n 0, 1) := by decide +kernel
theorem dX3_seen_65 : decode cX3_seen 65 = .ok (.getfield 19, 3) := by decide +kernel
theorem dX3_seen_68 : decode cX3_seen 68 = .ok (.getfield 80, 3) := by decide +kernel
theorem dX3_seen_71 : decode cX3_seen 71 = .ok (.invokevirtual 150, 3) := by decide +kernel
theorem dX3_seen_74 : decode cX3_seen 74 = .ok (.iastore, 1) := by decide +kernel
theorem dX3_seen_75 : decode cX3_seen 75 = .ok (.aload_n 0, 1) := by decide +kernel
theorem dX3_seen_76 : decode cX3_seen 76 = .ok (.dup, 1) := by decide +kernel
theorem dX3_seen_77 : decode cX3_seen 77 = .ok (.getfield 83, 3) := by decide +kernel
theorem dX3_seen_80 : decode cX3_seen 80 = .ok (.iconst 1, 1) := by decide +kernel
theorem dX3_seen_81 : decode cX3_seen 81 = .ok (.iadd, 1) := by decide +kernel
theorem dX3_seen_82 : decode cX3_seen 82 = .ok (.putfield 83, 3) := by decide +kernel
theorem dX3_seen_85 : decode cX3_seen 85 = .ok (.aload_n 0, 1) := by decide +kernel
theorem dX3_seen_86 : decode cX3_seen 86 = .ok (.getfield 83, 3) := by decide +kernel
theorem dX3_seen_89 : decode cX3_seen 89 = .ok (.ireturn, 1) := by decide +kernel
theorem dX3_forget_0 : decode cX3_forget 0 = .ok (.aload_n 0, 1) := by decide +kernel
theorem dX3_forget_1 : decode cX3_forget 1 = .ok (.getfield 83, 3) := by decide +kernel
theorem dX3_forget_4 : decode cX3_forget 4 = .ok (.istore_n 1, 1) := by decide +kernel
theorem dX3_forget_5 : decode cX3_forget 5 = .ok (.aload_n 0, 1) := by decide +kernel
theorem dX3_forget_6 : decode cX3_forget 6 = .ok (.iconst 0, 1) := by decide +kernel
theorem dX3_forget_7 : decode cX3_forget 7 = .ok (.putfield 83, 3) := by decide +kernel
theorem dX3_forget_10 : decode cX3_forget 10 = .ok (.iload_n 1, 1) := by decide +kernel
theorem dX3_forget_11 : decode cX3_forget 11 = .ok (.ireturn, 1) := by decide +kernel
theorem dX3_fits_0 : decode cX3_fits 0 = .ok (.iconst 1, 1) := by decide +kernel
theorem dX3_fits_1 : decode cX3_fits 1 = .ok (.aload_n 0, 1) := by decide +kernel
theorem dX3_fits_2 : decode cX3_fits 2 = .ok (.getfield 19, 3) := by decide +kernel
theorem dX3_fits_5 : decode cX3_fits 5 = .ok (.getfield 80, 3) := by decide +kernel
theorem dX3_fits_8 : decode cX3_fits 8 = .ok (.ishl, 1) := by decide +kernel
theorem dX3_fits_9 : decode cX3_fits 9 = .ok (.iconst 1, 1) := by decide +kernel
theorem dX3_fits_10 : decode cX3_fits 10 = .ok (.isub, 1) := by decide +kernel
theorem dX3_fits_11 : decode cX3_fits 11 = .ok (.istore_n 1, 1) := by decide +kernel
theorem dX3_fits_12 : decode cX3_fits 12 = .ok (.iconst 0, 1) := by decide +kernel
theorem dX3_fits_13 : decode cX3_fits 13 = .ok (.istore_n 2, 1) := by decide +kernel
theorem dX3_fits_14 : decode cX3_fits 14 = .ok (.iload_n 2, 1) := by decide +kernel
theorem dX3_fits_15 : decode cX3_fits 15 = .ok (.aload_n 0, 1) := by decide +kernel
theorem dX3_fits_16 : decode cX3_fits 16 = .ok (.getfield 83, 3) := by decide +kernel
theorem dX3_fits_19 : decode cX3_fits 19 = .ok (.if_icmp .ge 18, 3) := by decide +kernel
theorem dX3_fits_22 : decode cX3_fits 22 = .ok (.iload_n 1, 1) := by decide +kernel
theorem dX3_fits_23 : decode cX3_fits 23 = .ok (.aload_n 0, 1) := by decide +kernel
theorem dX3_fits_24 : decode cX3_fits 24 = .ok (.getfield 42, 3) := by decide +kernel
theorem dX3_fits_27 : decode cX3_fits 27 = .ok (.iload_n 2, 1) := by decide +kernel
theorem dX3_fits_28 : decode cX3_fits 28 = .ok (.iaload, 1) := by decide +kernel
theorem dX3_fits_29 : decode cX3_fits 29 = .ok (.iand, 1) := by decide +kernel
theorem dX3_fits_30 : decode cX3_fits 30 = .ok (.istore_n 1, 1) := by decide +kernel
theorem dX3_fits_31 : decode cX3_fits 31 = .ok (.iinc 2 1, 3) := by decide +kernel
theorem dX3_fits_34 : decode cX3_fits 34 = .ok (.goto (-20), 3) := by decide +kernel
theorem dX3_fits_37 : decode cX3_fits 37 = .ok (.iload_n 1, 1) := by decide +kernel
theorem dX3_fits_38 : decode cX3_fits 38 = .ok (.ireturn, 1) := by decide +kernel
theorem dX3_least_0 : decode cX3_least 0 = .ok (.bipush (-4), 2) := by decide +kernel
theorem dX3_least_2 : decode cX3_least 2 = .ok (.istore_n 1, 1) := by decide +kernel
theorem dX3_least_3 : decode cX3_least 3 = .ok (.bipush 6, 2) := by decide +kernel
theorem dX3_least_5 : decode cX3_least 5 = .ok (.istore_n 2, 1) := by decide +kernel
theorem dX3_least_6 : decode cX3_least 6 = .ok (.iconst 0, 1) := by decide +kernel
theorem dX3_least_7 : decode cX3_least 7 = .ok (.istore_n 3, 1) := by decide +kernel
theorem dX3_least_8 : decode cX3_least 8 = .ok (.iload_n 3, 1) := by decide +kernel
theorem dX3_least_9 : decode cX3_least 9 = .ok (.iconst 1, 1) := by decide +kernel
theorem dX3_least_10 : decode cX3_least 10 = .ok (.aload_n 0, 1) := by decide +kernel
theorem dX3_least_11 : decode cX3_least 11 = .ok (.getfield 19, 3) := by decide +kernel
theorem dX3_least_14 : decode cX3_least 14 = .ok (.getfield 80, 3) := by decide +kernel
theorem dX3_least_17 : decode cX3_least 17 = .ok (.ishl, 1) := by decide +kernel
theorem dX3_least_18 : decode cX3_least 18 = .ok (.if_icmp .ge 34, 3) := by decide +kernel
theorem dX3_least_21 : decode cX3_least 21 = .ok (.iload_n 3, 1) := by decide +kernel
theorem dX3_least_22 : decode cX3_least 22 = .ok (.invokestatic 165, 3) := by decide +kernel
theorem dX3_least_25 : decode cX3_least 25 = .ok (.istore 4, 2) := by decide +kernel
theorem dX3_least_27 : decode cX3_least 27 = .ok (.iload 4, 2) := by decide +kernel
theorem dX3_least_29 : decode cX3_least 29 = .ok (.iload_n 2, 1) := by decide +kernel
theorem dX3_least_30 : decode cX3_least 30 = .ok (.if_icmp .ge 16, 3) := by decide +kernel
theorem dX3_least_33 : decode cX3_least 33 = .ok (.aload_n 0, 1) := by decide +kernel
theorem dX3_least_34 : decode cX3_least 34 = .ok (.iload_n 3, 1) := by decide +kernel
theorem dX3_least_35 : decode cX3_least 35 = .ok (.invokevirtual 170, 3) := by decide +kernel
theorem dX3_least_38 : decode cX3_least 38 = .ok (.ifCond .eq 8, 3) := by decide +kernel
theorem dX3_least_41 : decode cX3_least 41 = .ok (.iload 4, 2) := by decide +kernel
theorem dX3_least_43 : decode cX3_least 43 = .ok (.istore_n 2, 1) := by decide +kernel
theorem dX3_least_44 : decode cX3_least 44 = .ok (.iload_n 3, 1) := by decide +kernel
theorem dX3_least_45 : decode cX3_least 45 = .ok (.istore_n 1, 1) := by decide +kernel
theorem dX3_least_46 : decode cX3_least 46 = .ok (.iinc 3 1, 3) := by decide +kernel
theorem dX3_least_49 : decode cX3_least 49 = .ok (.goto (-41), 3) := by decide +kernel
theorem dX3_least_52 : decode cX3_least 52 = .ok (.iload_n 1, 1) := by decide +kernel
theorem dX3_least_53 : decode cX3_least 53 = .ok (.ireturn, 1) := by decide +kernel
theorem dX3_month_0 : decode cX3_month 0 = .ok (.iload_n 1, 1) := by decide +kernel
theorem dX3_month_1 : decode cX3_month 1 = .ok (.ifCond .lt 37, 3) := by decide +kernel
theorem dX3_month_4 : decode cX3_month 4 = .ok (.iload_n 1, 1) := by decide +kernel
theorem dX3_month_5 : decode cX3_month 5 = .ok (.sipush 9999, 3) := by decide +kernel
theorem dX3_month_8 : decode cX3_month 8 = .ok (.if_icmp .gt 30, 3) := by decide +kernel
theorem dX3_month_11 : decode cX3_month 11 = .ok (.iload_n 2, 1) := by decide +kernel
theorem dX3_month_12 : decode cX3_month 12 = .ok (.iconst 1, 1) := by decide +kernel
theorem dX3_month_13 : decode cX3_month 13 = .ok (.if_icmp .lt 25, 3) := by decide +kernel
theorem dX3_month_16 : decode cX3_month 16 = .ok (.iload_n 2, 1) := by decide +kernel
theorem dX3_month_17 : decode cX3_month 17 = .ok (.bipush 60, 2) := by decide +kernel
theorem dX3_month_19 : decode cX3_month 19 = .ok (.if_icmp .gt 19, 3) := by decide +kernel
theorem dX3_month_22 : decode cX3_month 22 = .ok (.aload_n 0, 1) := by decide +kernel
theorem dX3_month_23 : decode cX3_month 23 = .ok (.iload_n 3, 1) := by decide +kernel
theorem dX3_month_24 : decode cX3_month 24 = .ok (.invokevirtual 89, 3) := by decide +kernel
theorem dX3_month_27 : decode cX3_month 27 = .ok (.ifCond .eq 11, 3) := by decide +kernel
theorem dX3_month_30 : decode cX3_month 30 = .ok (.iload 4, 2) := by decide +kernel
theorem dX3_month_32 : decode cX3_month 32 = .ok (.invokestatic 92, 3) := by decide +kernel
theorem dX3_month_35 : decode cX3_month 35 = .ok (.ifCond .ne 5, 3) := by decide +kernel
theorem dX3_month_38 : decode cX3_month 38 = .ok (.iconst (-1), 1) := by decide +kernel
theorem dX3_month_39 : decode cX3_month 39 = .ok (.ireturn, 1) := by decide +kernel
theorem dX3_month_40 : decode cX3_month 40 = .ok (.aload_n 0, 1) := by decide +kernel
theorem dX3_month_41 : decode cX3_month 41 = .ok (.getfield 33, 3) := by decide +kernel
theorem dX3_month_44 : decode cX3_month 44 = .ok (.aload_n 0, 1) := by decide +kernel
theorem dX3_month_45 : decode cX3_month 45 = .ok (.getfield 29, 3) := by decide +kernel
theorem dX3_month_48 : decode cX3_month 48 = .ok (.invokevirtual 146, 3) := by decide +kernel
theorem dX3_month_51 : decode cX3_month 51 = .ok (.iconst 0, 1) := by decide +kernel
theorem dX3_month_52 : decode cX3_month 52 = .ok (.istore 5, 2) := by decide +kernel
theorem dX3_month_54 : decode cX3_month 54 = .ok (.iload 5, 2) := by decide +kernel
theorem dX3_month_56 : decode cX3_month 56 = .ok (.iload_n 2, 1) := by decide +kernel
theorem dX3_month_57 : decode cX3_month 57 = .ok (.if_icmp .ge 50, 3) := by decide +kernel
theorem dX3_month_60 : decode cX3_month 60 = .ok (.iload_n 1, 1) := by decide +kernel
theorem dX3_month_61 : decode cX3_month 61 = .ok (.iload 5, 2) := by decide +kernel
theorem dX3_month_63 : decode cX3_month 63 = .ok (.invokestatic 173, 3) := by decide +kernel
theorem dX3_month_66 : decode cX3_month 66 = .ok (.istore 6, 2) := by decide +kernel
theorem dX3_month_68 : decode cX3_month 68 = .ok (.aload_n 0, 1) := by decide +kernel
theorem dX3_month_69 : decode cX3_month 69 = .ok (.getfield 33, 3) := by decide +kernel
theorem dX3_month_72 : decode cX3_month 72 = .ok (.aload_n 0, 1) := by decide +kernel
theorem dX3_month_73 : decode cX3_month 73 = .ok (.getfield 19, 3) := by decide +kernel
theorem dX3_month_76 : decode cX3_month 76 = .ok (.iload 6, 2) := by decide +kernel
theorem dX3_month_78 : decode cX3_month 78 = .ok (.invokevirtual 176, 3) := by decide +kernel
theorem dX3_month_81 : decode cX3_month 81 = .ok (.iload 6, 2) := by decide +kernel
theorem dX3_month_83 : decode cX3_month 83 = .ok (.bipush 8, 2) := by decide +kernel
theorem dX3_month_85 : decode cX3_month 85 = .ok (.irem, 1) := by decide +kernel
theorem dX3_month_86 : decode cX3_month 86 = .ok (.invokevirtual 111, 3) := by decide +kernel
theorem dX3_month_89 : decode cX3_month 89 = .ok (.aload_n 0, 1) := by decide +kernel
theorem dX3_month_90 : decode cX3_month 90 = .ok (.getfield 33, 3) := by decide +kernel
theorem dX3_month_93 : decode cX3_month 93 = .ok (.aload_n 0, 1) := by decide +kernel
theorem dX3_month_94 : decode cX3_month 94 = .ok (.getfield 19, 3) := by decide +kernel
theorem dX3_month_97 : decode cX3_month 97 = .ok (.iconst 1, 1) := by decide +kernel
theorem dX3_month_98 : decode cX3_month 98 = .ok (.invokevirtual 128, 3) := by decide +kernel
theorem dX3_month_101 : decode cX3_month 101 = .ok (.iinc 5 1, 3) := by decide +kernel
theorem dX3_month_104 : decode cX3_month 104 = .ok (.goto (-50), 3) := by decide +kernel
theorem dX3_month_107 : decode cX3_month 107 = .ok (.aload_n 0, 1) := by decide +kernel
theorem dX3_month_108 : decode cX3_month 108 = .ok (.getfield 33, 3) := by decide +kernel
theorem dX3_month_111 : decode cX3_month 111 = .ok (.getfield 98, 3) := by decide +kernel
theorem dX3_month_114 : decode cX3_month 114 = .ok (.iconst 2, 1) := by decide +kernel
theorem dX3_month_115 : decode cX3_month 115 = .ok (.iload_n 3, 1) := by decide +kernel
theorem dX3_month_116 : decode cX3_month 116 = .ok (.imul, 1) := by decide +kernel
theorem dX3_month_117 : decode cX3_month 117 = .ok (.iload 4, 2) := by decide +kernel
theorem dX3_month_119 : decode cX3_month 119 = .ok (.iadd, 1) := by decide +kernel
theorem dX3_month_120 : decode cX3_month 120 = .ok (.iaload, 1) := by decide +kernel
theorem dX3_month_121 : decode cX3_month 121 = .ok (.ireturn, 1) := by decide +kernel
theorem dX3_keep_0 : decode cX3_keep 0 = .ok (.aload_n 0, 1) := by decide +kernel
theorem dX3_keep_1 : decode cX3_keep 1 = .ok (.getfield 86, 3) := by decide +kernel
theorem dX3_keep_4 : decode cX3_keep 4 = .ok (.iconst 2, 1) := by decide +kernel
theorem dX3_keep_5 : decode cX3_keep 5 = .ok (.if_icmp .lt 6, 3) := by decide +kernel
theorem dX3_keep_8 : decode cX3_keep 8 = .ok (.bipush (-3), 2) := by decide +kernel
theorem dX3_keep_10 : decode cX3_keep 10 = .ok (.ireturn, 1) := by decide +kernel
theorem dX3_keep_11 : decode cX3_keep 11 = .ok (.aload_n 0, 1) := by decide +kernel
theorem dX3_keep_12 : decode cX3_keep 12 = .ok (.aload_n 0, 1) := by decide +kernel
theorem dX3_keep_13 : decode cX3_keep 13 = .ok (.getfield 86, 3) := by decide +kernel
theorem dX3_keep_16 : decode cX3_keep 16 = .ok (.invokevirtual 179, 3) := by decide +kernel
theorem dX3_keep_19 : decode cX3_keep 19 = .ok (.aload_n 0, 1) := by decide +kernel
theorem dX3_keep_20 : decode cX3_keep 20 = .ok (.getfield 29, 3) := by decide +kernel
theorem dX3_keep_23 : decode cX3_keep 23 = .ok (.invokevirtual 146, 3) := by decide +kernel
theorem dX3_keep_26 : decode cX3_keep 26 = .ok (.aload_n 0, 1) := by decide +kernel
theorem dX3_keep_27 : decode cX3_keep 27 = .ok (.dup, 1) := by decide +kernel
theorem dX3_keep_28 : decode cX3_keep 28 = .ok (.getfield 86, 3) := by decide +kernel
theorem dX3_keep_31 : decode cX3_keep 31 = .ok (.iconst 1, 1) := by decide +kernel
theorem dX3_keep_32 : decode cX3_keep 32 = .ok (.iadd, 1) := by decide +kernel
theorem dX3_keep_33 : decode cX3_keep 33 = .ok (.putfield 86, 3) := by decide +kernel
theorem dX3_keep_36 : decode cX3_keep 36 = .ok (.aload_n 0, 1) := by decide +kernel
theorem dX3_keep_37 : decode cX3_keep 37 = .ok (.getfield 86, 3) := by decide +kernel
theorem dX3_keep_40 : decode cX3_keep 40 = .ok (.ireturn, 1) := by decide +kernel
theorem dX3_back_0 : decode cX3_back 0 = .ok (.aload_n 0, 1) := by decide +kernel
theorem dX3_back_1 : decode cX3_back 1 = .ok (.getfield 86, 3) := by decide +kernel
theorem dX3_back_4 : decode cX3_back 4 = .ok (.ifCond .gt 6, 3) := by decide +kernel
theorem dX3_back_7 : decode cX3_back 7 = .ok (.bipush (-2), 2) := by decide +kernel
theorem dX3_back_9 : decode cX3_back 9 = .ok (.ireturn, 1) := by decide +kernel
theorem dX3_back_10 : decode cX3_back 10 = .ok (.aload_n 0, 1) := by decide +kernel
theorem dX3_back_11 : decode cX3_back 11 = .ok (.dup, 1) := by decide +kernel
theorem dX3_back_12 : decode cX3_back 12 = .ok (.getfield 86, 3) := by decide +kernel
theorem dX3_back_15 : decode cX3_back 15 = .ok (.iconst 1, 1) := by decide +kernel
theorem dX3_back_16 : decode cX3_back 16 = .ok (.isub, 1) := by decide +kernel
theorem dX3_back_17 : decode cX3_back 17 = .ok (.putfield 86, 3) := by decide +kernel
theorem dX3_back_20 : decode cX3_back 20 = .ok (.aload_n 0, 1) := by decide +kernel
theorem dX3_back_21 : decode cX3_back 21 = .ok (.getfield 29, 3) := by decide +kernel
theorem dX3_back_24 : decode cX3_back 24 = .ok (.aload_n 0, 1) := by decide +kernel
theorem dX3_back_25 : decode cX3_back 25 = .ok (.aload_n 0, 1) := by decide +kernel
theorem dX3_back_26 : decode cX3_back 26 = .ok (.getfield 86, 3) := by decide +kernel
theorem dX3_back_29 : decode cX3_back 29 = .ok (.invokevirtual 179, 3) := by decide +kernel
theorem dX3_back_32 : decode cX3_back 32 = .ok (.invokevirtual 146, 3) := by decide +kernel
theorem dX3_back_35 : decode cX3_back 35 = .ok (.aload_n 0, 1) := by decide +kernel
theorem dX3_back_36 : decode cX3_back 36 = .ok (.getfield 86, 3) := by decide +kernel
theorem dX3_back_39 : decode cX3_back 39 = .ok (.ireturn, 1) := by decide +kernel
theorem dX3_count_0 : decode cX3_count 0 = .ok (.iload_n 1, 1) := by decide +kernel
theorem dX3_count_1 : decode cX3_count 1 = .ok (.tableswitch 117 0 8 #[51, 59, 67, 75, 83, 88, 93, 101, 109], 51) := by decide +kernel
theorem dX3_count_52 : decode cX3_count 52 = .ok (.aload_n 0, 1) := by decide +kernel
theorem dX3_count_53 : decode cX3_count 53 = .ok (.getfield 19, 3) := by decide +kernel
theorem dX3_count_56 : decode cX3_count 56 = .ok (.getfield 80, 3) := by decide +kernel
theorem dX3_count_59 : decode cX3_count 59 = .ok (.ireturn, 1) := by decide +kernel
theorem dX3_count_60 : decode cX3_count 60 = .ok (.aload_n 0, 1) := by decide +kernel
theorem dX3_count_61 : decode cX3_count 61 = .ok (.getfield 19, 3) := by decide +kernel
theorem dX3_count_64 : decode cX3_count 64 = .ok (.getfield 183, 3) := by decide +kernel
theorem dX3_count_67 : decode cX3_count 67 = .ok (.ireturn, 1) := by decide +kernel
theorem dX3_count_68 : decode cX3_count 68 = .ok (.aload_n 0, 1) := by decide +kernel
theorem dX3_count_69 : decode cX3_count 69 = .ok (.getfield 19, 3) := by decide +kernel
theorem dX3_count_72 : decode cX3_count 72 = .ok (.getfield 186, 3) := by decide +kernel
theorem dX3_count_75 : decode cX3_count 75 = .ok (.ireturn, 1) := by decide +kernel
theorem dX3_count_76 : decode cX3_count 76 = .ok (.aload_n 0, 1) := by decide +kernel
theorem dX3_count_77 : decode cX3_count 77 = .ok (.getfield 29, 3) := by decide +kernel
theorem dX3_count_80 : decode cX3_count 80 = .ok (.getfield 125, 3) := by decide +kernel
theorem dX3_count_83 : decode cX3_count 83 = .ok (.ireturn, 1) := by decide +kernel
theorem dX3_count_84 : decode cX3_count 84 = .ok (.aload_n 0, 1) := by decide +kernel
theorem dX3_count_85 : decode cX3_count 85 = .ok (.getfield 83, 3) := by decide +kernel
theorem dX3_count_88 : decode cX3_count 88 = .ok (.ireturn, 1) := by decide +kernel
theorem dX3_count_89 : decode cX3_count 89 = .ok (.aload_n 0, 1) := by decide +kernel
theorem dX3_count_90 : decode cX3_count 90 = .ok (.getfield 86, 3) := by decide +kernel
theorem dX3_count_93 : decode cX3_count 93 = .ok (.ireturn, 1) := by decide +kernel
theorem dX3_count_94 : decode cX3_count 94 = .ok (.aload_n 0, 1) := by decide +kernel
theorem dX3_count_95 : decode cX3_count 95 = .ok (.getfield 12, 3) := by decide +kernel
theorem dX3_count_98 : decode cX3_count 98 = .ok (.getfield 68, 3) := by decide +kernel
theorem dX3_count_101 : decode cX3_count 101 = .ok (.ireturn, 1) := by decide +kernel
theorem dX3_count_102 : decode cX3_count 102 = .ok (.aload_n 0, 1) := by decide +kernel
theorem dX3_count_103 : decode cX3_count 103 = .ok (.getfield 19, 3) := by decide +kernel
theorem dX3_count_106 : decode cX3_count 106 = .ok (.getfield 189, 3) := by decide +kernel
theorem dX3_count_109 : decode cX3_count 109 = .ok (.ireturn, 1) := by decide +kernel
theorem dX3_count_110 : decode cX3_count 110 = .ok (.aload_n 0, 1) := by decide +kernel
theorem dX3_count_111 : decode cX3_count 111 = .ok (.getfield 19, 3) := by decide +kernel
theorem dX3_count_114 : decode cX3_count 114 = .ok (.getfield 192, 3) := by decide +kernel
theorem dX3_count_117 : decode cX3_count 117 = .ok (.ireturn, 1) := by decide +kernel
theorem dX3_count_118 : decode cX3_count 118 = .ok (.iconst (-1), 1) := by decide +kernel
theorem dX3_count_119 : decode cX3_count 119 = .ok (.ireturn, 1) := by decide +kernel
theorem dX3_isPerson_0 : decode cX3_isPerson 0 = .ok (.iload_n 1, 1) := by decide +kernel
theorem dX3_isPerson_1 : decode cX3_isPerson 1 = .ok (.ifCond .lt 18, 3) := by decide +kernel
theorem dX3_isPerson_4 : decode cX3_isPerson 4 = .ok (.iload_n 1, 1) := by decide +kernel
theorem dX3_isPerson_5 : decode cX3_isPerson 5 = .ok (.aload_n 0, 1) := by decide +kernel
theorem dX3_isPerson_6 : decode cX3_isPerson 6 = .ok (.getfield 19, 3) := by decide +kernel
theorem dX3_isPerson_9 : decode cX3_isPerson 9 = .ok (.getfield 80, 3) := by decide +kernel
theorem dX3_isPerson_12 : decode cX3_isPerson 12 = .ok (.if_icmp .ge 7, 3) := by decide +kernel
theorem dX3_isPerson_15 : decode cX3_isPerson 15 = .ok (.iconst 1, 1) := by decide +kernel
theorem dX3_isPerson_16 : decode cX3_isPerson 16 = .ok (.goto 4, 3) := by decide +kernel
theorem dX3_isPerson_19 : decode cX3_isPerson 19 = .ok (.iconst 0, 1) := by decide +kernel
theorem dX3_isPerson_20 : decode cX3_isPerson 20 = .ok (.ireturn, 1) := by decide +kernel
theorem dX3_isTrade_0 : decode cX3_isTrade 0 = .ok (.iload_n 1, 1) := by decide +kernel
theorem dX3_isTrade_1 : decode cX3_isTrade 1 = .ok (.ifCond .lt 18, 3) := by decide +kernel
theorem dX3_isTrade_4 : decode cX3_isTrade 4 = .ok (.iload_n 1, 1) := by decide +kernel
theorem dX3_isTrade_5 : decode cX3_isTrade 5 = .ok (.aload_n 0, 1) := by decide +kernel
theorem dX3_isTrade_6 : decode cX3_isTrade 6 = .ok (.getfield 19, 3) := by decide +kernel
theorem dX3_isTrade_9 : decode cX3_isTrade 9 = .ok (.getfield 183, 3) := by decide +kernel
theorem dX3_isTrade_12 : decode cX3_isTrade 12 = .ok (.if_icmp .ge 7, 3) := by decide +kernel
theorem dX3_isTrade_15 : decode cX3_isTrade 15 = .ok (.iconst 1, 1) := by decide +kernel
theorem dX3_isTrade_16 : decode cX3_isTrade 16 = .ok (.goto 4, 3) := by decide +kernel
theorem dX3_isTrade_19 : decode cX3_isTrade 19 = .ok (.iconst 0, 1) := by decide +kernel
theorem dX3_isTrade_20 : decode cX3_isTrade 20 = .ok (.ireturn, 1) := by decide +kernel
theorem dX3_isHalf_0 : decode cX3_isHalf 0 = .ok (.iload_n 0, 1) := by decide +kernel
theorem dX3_isHalf_1 : decode cX3_isHalf 1 = .ok (.ifCond .eq 8, 3) := by decide +kernel
theorem dX3_isHalf_4 : decode cX3_isHalf 4 = .ok (.iload_n 0, 1) := by decide +kernel
theorem dX3_isHalf_5 : decode cX3_isHalf 5 = .ok (.iconst 1, 1) := by decide +kernel
theorem dX3_isHalf_6 : decode cX3_isHalf 6 = .ok (.if_icmp .ne 7, 3) := by decide +kernel
theorem dX3_isHalf_9 : decode cX3_isHalf 9 = .ok (.iconst 1, 1) := by decide +kernel
theorem dX3_isHalf_10 : decode cX3_isHalf 10 = .ok (.goto 4, 3) := by decide +kernel
theorem dX3_isHalf_13 : decode cX3_isHalf 13 = .ok (.iconst 0, 1) := by decide +kernel
theorem dX3_isHalf_14 : decode cX3_isHalf 14 = .ok (.ireturn, 1) := by decide +kernel
theorem dX3_isFact_0 : decode cX3_isFact 0 = .ok (.iload_n 0, 1) := by decide +kernel
theorem dX3_isFact_1 : decode cX3_isFact 1 = .ok (.ifCond .lt 13, 3) := by decide +kernel
theorem dX3_isFact_4 : decode cX3_isFact 4 = .ok (.iload_n 0, 1) := by decide +kernel
theorem dX3_isFact_5 : decode cX3_isFact 5 = .ok (.bipush 8, 2) := by decide +kernel
theorem dX3_isFact_7 : decode cX3_isFact 7 = .ok (.if_icmp .ge 7, 3) := by decide +kernel
theorem dX3_isFact_10 : decode cX3_isFact 10 = .ok (.iconst 1, 1) := by decide +kernel
theorem dX3_isFact_11 : decode cX3_isFact 11 = .ok (.goto 4, 3) := by decide +kernel
theorem dX3_isFact_14 : decode cX3_isFact 14 = .ok (.iconst 0, 1) := by decide +kernel
theorem dX3_isFact_15 : decode cX3_isFact 15 = .ok (.ireturn, 1) := by decide +kernel
theorem dX3_areFacts_0 : decode cX3_areFacts 0 = .ok (.iload_n 0, 1) := by decide +kernel
theorem dX3_areFacts_1 : decode cX3_areFacts 1 = .ok (.ifCond .lt 14, 3) := by decide +kernel
theorem dX3_areFacts_4 : decode cX3_areFacts 4 = .ok (.iload_n 0, 1) := by decide +kernel
theorem dX3_areFacts_5 : decode cX3_areFacts 5 = .ok (.sipush 255, 3) := by decide +kernel
theorem dX3_areFacts_8 : decode cX3_areFacts 8 = .ok (.if_icmp .gt 7, 3) := by decide +kernel
theorem dX3_areFacts_11 : decode cX3_areFacts 11 = .ok (.iconst 1, 1) := by decide +kernel
theorem dX3_areFacts_12 : decode cX3_areFacts 12 = .ok (.goto 4, 3) := by decide +kernel
theorem dX3_areFacts_15 : decode cX3_areFacts 15 = .ok (.iconst 0, 1) := by decide +kernel
theorem dX3_areFacts_16 : decode cX3_areFacts 16 = .ok (.ireturn, 1) := by decide +kernel
theorem dX3_isAhead_0 : decode cX3_isAhead 0 = .ok (.iload_n 0, 1) := by decide +kernel
theorem dX3_isAhead_1 : decode cX3_isAhead 1 = .ok (.ifCond .lt 13, 3) := by decide +kernel
theorem dX3_isAhead_4 : decode cX3_isAhead 4 = .ok (.iload_n 0, 1) := by decide +kernel
theorem dX3_isAhead_5 : decode cX3_isAhead 5 = .ok (.bipush 40, 2) := by decide +kernel
theorem dX3_isAhead_7 : decode cX3_isAhead 7 = .ok (.if_icmp .gt 7, 3) := by decide +kernel
theorem dX3_isAhead_10 : decode cX3_isAhead 10 = .ok (.iconst 1, 1) := by decide +kernel
theorem dX3_isAhead_11 : decode cX3_isAhead 11 = .ok (.goto 4, 3) := by decide +kernel
theorem dX3_isAhead_14 : decode cX3_isAhead 14 = .ok (.iconst 0, 1) := by decide +kernel
theorem dX3_isAhead_15 : decode cX3_isAhead 15 = .ok (.ireturn, 1) := by decide +kernel
theorem dX3_isTake_0 : decode cX3_isTake 0 = .ok (.iload_n 0, 1) := by decide +kernel
theorem dX3_isTake_1 : decode cX3_isTake 1 = .ok (.ifCond .lt 13, 3) := by decide +kernel
theorem dX3_isTake_4 : decode cX3_isTake 4 = .ok (.iload_n 0, 1) := by decide +kernel
theorem dX3_isTake_5 : decode cX3_isTake 5 = .ok (.bipush 10, 2) := by decide +kernel
theorem dX3_isTake_7 : decode cX3_isTake 7 = .ok (.if_icmp .ge 7, 3) := by decide +kernel
theorem dX3_isTake_10 : decode cX3_isTake 10 = .ok (.iconst 1, 1) := by decide +kernel
theorem dX3_isTake_11 : decode cX3_isTake 11 = .ok (.goto 4, 3) := by decide +kernel
theorem dX3_isTake_14 : decode cX3_isTake 14 = .ok (.iconst 0, 1) := by decide +kernel
theorem dX3_isTake_15 : decode cX3_isTake 15 = .ok (.ireturn, 1) := by decide +kernel
theorem dX3_holdsAll_0 : decode cX3_holdsAll 0 = .ok (.iload_n 0, 1) := by decide +kernel
theorem dX3_holdsAll_1 : decode cX3_holdsAll 1 = .ok (.iload_n 1, 1) := by decide +kernel
theorem dX3_holdsAll_2 : decode cX3_holdsAll 2 = .ok (.iand, 1) := by decide +kernel
theorem dX3_holdsAll_3 : decode cX3_holdsAll 3 = .ok (.iload_n 1, 1) := by decide +kernel
theorem dX3_holdsAll_4 : decode cX3_holdsAll 4 = .ok (.if_icmp .ne 7, 3) := by decide +kernel
theorem dX3_holdsAll_7 : decode cX3_holdsAll 7 = .ok (.iconst 1, 1) := by decide +kernel
theorem dX3_holdsAll_8 : decode cX3_holdsAll 8 = .ok (.goto 4, 3) := by decide +kernel
theorem dX3_holdsAll_11 : decode cX3_holdsAll 11 = .ok (.iconst 0, 1) := by decide +kernel
theorem dX3_holdsAll_12 : decode cX3_holdsAll 12 = .ok (.ireturn, 1) := by decide +kernel
theorem dX3_draw_0 : decode cX3_draw 0 = .ok (.ldc2_w 195, 3) := by decide +kernel
theorem dX3_draw_3 : decode cX3_draw 3 = .ok (.iload_n 0, 1) := by decide +kernel
theorem dX3_draw_4 : decode cX3_draw 4 = .ok (.i2l, 1) := by decide +kernel
theorem dX3_draw_5 : decode cX3_draw 5 = .ok (.lmul, 1) := by decide +kernel
theorem dX3_draw_6 : decode cX3_draw 6 = .ok (.ldc2_w 197, 3) := by decide +kernel
theorem dX3_draw_9 : decode cX3_draw 9 = .ok (.iload_n 1, 1) := by decide +kernel
theorem dX3_draw_10 : decode cX3_draw 10 = .ok (.i2l, 1) := by decide +kernel
theorem dX3_draw_11 : decode cX3_draw 11 = .ok (.lmul, 1) := by decide +kernel
theorem dX3_draw_12 : decode cX3_draw 12 = .ok (.ladd, 1) := by decide +kernel
theorem dX3_draw_13 : decode cX3_draw 13 = .ok (.lconst 1, 1) := by decide +kernel
theorem dX3_draw_14 : decode cX3_draw 14 = .ok (.ladd, 1) := by decide +kernel
theorem dX3_draw_15 : decode cX3_draw 15 = .ok (.lstore_n 2, 1) := by decide +kernel
theorem dX3_draw_16 : decode cX3_draw 16 = .ok (.lload_n 2, 1) := by decide +kernel
theorem dX3_draw_17 : decode cX3_draw 17 = .ok (.lload_n 2, 1) := by decide +kernel
theorem dX3_draw_18 : decode cX3_draw 18 = .ok (.lmul, 1) := by decide +kernel
theorem dX3_draw_19 : decode cX3_draw 19 = .ok (.ldc2_w 199, 3) := by decide +kernel
theorem dX3_draw_22 : decode cX3_draw 22 = .ok (.lrem, 1) := by decide +kernel
theorem dX3_draw_23 : decode cX3_draw 23 = .ok (.l2i, 1) := by decide +kernel
theorem dX3_draw_24 : decode cX3_draw 24 = .ok (.ireturn, 1) := by decide +kernel
theorem dX3_keptPlace_0 : decode cX3_keptPlace 0 = .ok (.iload_n 1, 1) := by decide +kernel
theorem dX3_keptPlace_1 : decode cX3_keptPlace 1 = .ok (.ifCond .ne 10, 3) := by decide +kernel
theorem dX3_keptPlace_4 : decode cX3_keptPlace 4 = .ok (.aload_n 0, 1) := by decide +kernel
theorem dX3_keptPlace_5 : decode cX3_keptPlace 5 = .ok (.getfield 36, 3) := by decide +kernel
theorem dX3_keptPlace_8 : decode cX3_keptPlace 8 = .ok (.goto 7, 3) := by decide +kernel
theorem dX3_keptPlace_11 : decode cX3_keptPlace 11 = .ok (.aload_n 0, 1) := by decide +kernel
theorem dX3_keptPlace_12 : decode cX3_keptPlace 12 = .ok (.getfield 39, 3) := by decide +kernel
theorem dX3_keptPlace_15 : decode cX3_keptPlace 15 = .ok (.areturn, 1) := by decide +kernel
theorem dX3_explainsAllDeeds_0 : decode cX3_explainsAllDeeds 0 = .ok (.iconst 0, 1) := by decide +kernel
theorem dX3_explainsAllDeeds_1 : decode cX3_explainsAllDeeds 1 = .ok (.istore_n 2, 1) := by decide +kernel
theorem dX3_explainsAllDeeds_2 : decode cX3_explainsAllDeeds 2 = .ok (.iload_n 2, 1) := by decide +kernel
theorem dX3_explainsAllDeeds_3 : decode cX3_explainsAllDeeds 3 = .ok (.aload_n 0, 1) := by decide +kernel
theorem dX3_explainsAllDeeds_4 : decode cX3_explainsAllDeeds 4 = .ok (.getfield 83, 3) := by decide +kernel
theorem dX3_explainsAllDeeds_7 : decode cX3_explainsAllDeeds 7 = .ok (.if_icmp .ge 22, 3) := by decide +kernel
theorem dX3_explainsAllDeeds_10 : decode cX3_explainsAllDeeds 10 = .ok (.aload_n 0, 1) := by decide +kernel
theorem dX3_explainsAllDeeds_11 : decode cX3_explainsAllDeeds 11 = .ok (.getfield 42, 3) := by decide +kernel
theorem dX3_explainsAllDeeds_14 : decode cX3_explainsAllDeeds 14 = .ok (.iload_n 2, 1) := by decide +kernel
theorem dX3_explainsAllDeeds_15 : decode cX3_explainsAllDeeds 15 = .ok (.iaload, 1) := by decide +kernel
theorem dX3_explainsAllDeeds_16 : decode cX3_explainsAllDeeds 16 = .ok (.iload_n 1, 1) := by decide +kernel
theorem dX3_explainsAllDeeds_17 : decode cX3_explainsAllDeeds 17 = .ok (.iand, 1) := by decide +kernel
theorem dX3_explainsAllDeeds_18 : decode cX3_explainsAllDeeds 18 = .ok (.ifCond .ne 5, 3) := by decide +kernel
theorem dX3_explainsAllDeeds_21 : decode cX3_explainsAllDeeds 21 = .ok (.iconst 0, 1) := by decide +kernel
theorem dX3_explainsAllDeeds_22 : decode cX3_explainsAllDeeds 22 = .ok (.ireturn, 1) := by decide +kernel
theorem dX3_explainsAllDeeds_23 : decode cX3_explainsAllDeeds 23 = .ok (.iinc 2 1, 3) := by decide +kernel
theorem dX3_explainsAllDeeds_26 : decode cX3_explainsAllDeeds 26 = .ok (.goto (-24), 3) := by decide +kernel
theorem dX3_explainsAllDeeds_29 : decode cX3_explainsAllDeeds 29 = .ok (.iconst 1, 1) := by decide +kernel
theorem dX3_explainsAllDeeds_30 : decode cX3_explainsAllDeeds 30 = .ok (.ireturn, 1) := by decide +kernel
theorem dX3_findMostByTakes_0 : decode cX3_findMostByTakes 0 = .ok (.iconst 0, 1) := by decide +kernel
theorem dX3_findMostByTakes_1 : decode cX3_findMostByTakes 1 = .ok (.istore_n 1, 1) := by decide +kernel
theorem dX3_findMostByTakes_2 : decode cX3_findMostByTakes 2 = .ok (.iload_n 1, 1) := by decide +kernel
theorem dX3_findMostByTakes_3 : decode cX3_findMostByTakes 3 = .ok (.bipush 10, 2) := by decide +kernel
theorem dX3_findMostByTakes_5 : decode cX3_findMostByTakes 5 = .ok (.if_icmp .ge 87, 3) := by decide +kernel
theorem dX3_findMostByTakes_8 : decode cX3_findMostByTakes 8 = .ok (.aload_n 0, 1) := by decide +kernel
theorem dX3_findMostByTakes_9 : decode cX3_findMostByTakes 9 = .ok (.getfield 46, 3) := by decide +kernel
theorem dX3_findMostByTakes_12 : decode cX3_findMostByTakes 12 = .ok (.iload_n 1, 1) := by decide +kernel
theorem dX3_findMostByTakes_13 : decode cX3_findMostByTakes 13 = .ok (.iconst 0, 1) := by decide +kernel
theorem dX3_findMostByTakes_14 : decode cX3_findMostByTakes 14 = .ok (.iastore, 1) := by decide +kernel
theorem dX3_findMostByTakes_15 : decode cX3_findMostByTakes 15 = .ok (.aload_n 0, 1) := by decide +kernel
theorem dX3_findMostByTakes_16 : decode cX3_findMostByTakes 16 = .ok (.getfield 49, 3) := by decide +kernel
theorem dX3_findMostByTakes_19 : decode cX3_findMostByTakes 19 = .ok (.iload_n 1, 1) := by decide +kernel
theorem dX3_findMostByTakes_20 : decode cX3_findMostByTakes 20 = .ok (.iconst 0, 1) := by decide +kernel
theorem dX3_findMostByTakes_21 : decode cX3_findMostByTakes 21 = .ok (.iastore, 1) := by decide +kernel
theorem dX3_findMostByTakes_22 : decode cX3_findMostByTakes 22 = .ok (.iconst 0, 1) := by decide +kernel
theorem dX3_findMostByTakes_23 : decode cX3_findMostByTakes 23 = .ok (.istore_n 2, 1) := by decide +kernel
theorem dX3_findMostByTakes_24 : decode cX3_findMostByTakes 24 = .ok (.iload_n 2, 1) := by decide +kernel
theorem dX3_findMostByTakes_25 : decode cX3_findMostByTakes 25 = .ok (.bipush 10, 2) := by decide +kernel
theorem dX3_findMostByTakes_27 : decode cX3_findMostByTakes 27 = .ok (.if_icmp .ge 59, 3) := by decide +kernel
theorem dX3_findMostByTakes_30 : decode cX3_findMostByTakes 30 = .ok (.aload_n 0, 1) := by decide +kernel
theorem dX3_findMostByTakes_31 : decode cX3_findMostByTakes 31 = .ok (.getfield 46, 3) := by decide +kernel
theorem dX3_findMostByTakes_34 : decode cX3_findMostByTakes 34 = .ok (.iload_n 1, 1) := by decide +kernel
theorem dX3_findMostByTakes_35 : decode cX3_findMostByTakes 35 = .ok (.aload_n 0, 1) := by decide +kernel
theorem dX3_findMostByTakes_36 : decode cX3_findMostByTakes 36 = .ok (.getfield 46, 3) := by decide +kernel
theorem dX3_findMostByTakes_39 : decode cX3_findMostByTakes 39 = .ok (.iload_n 1, 1) := by decide +kernel
theorem dX3_findMostByTakes_40 : decode cX3_findMostByTakes 40 = .ok (.iaload, 1) := by decide +kernel
theorem dX3_findMostByTakes_41 : decode cX3_findMostByTakes 41 = .ok (.aload_n 0, 1) := by decide +kernel
theorem dX3_findMostByTakes_42 : decode cX3_findMostByTakes 42 = .ok (.getfield 19, 3) := by decide +kernel
theorem dX3_findMostByTakes_45 : decode cX3_findMostByTakes 45 = .ok (.iload_n 2, 1) := by decide +kernel
theorem dX3_findMostByTakes_46 : decode cX3_findMostByTakes 46 = .ok (.iload_n 1, 1) := by decide +kernel
theorem dX3_findMostByTakes_47 : decode cX3_findMostByTakes 47 = .ok (.iconst 0, 1) := by decide +kernel
theorem dX3_findMostByTakes_48 : decode cX3_findMostByTakes 48 = .ok (.invokevirtual 156, 3) := by decide +kernel
theorem dX3_findMostByTakes_51 : decode cX3_findMostByTakes 51 = .ok (.invokestatic 201, 3) := by decide +kernel
theorem dX3_findMostByTakes_54 : decode cX3_findMostByTakes 54 = .ok (.iastore, 1) := by decide +kernel
theorem dX3_findMostByTakes_55 : decode cX3_findMostByTakes 55 = .ok (.aload_n 0, 1) := by decide +kernel
theorem dX3_findMostByTakes_56 : decode cX3_findMostByTakes 56 = .ok (.getfield 49, 3) := by decide +kernel
theorem dX3_findMostByTakes_59 : decode cX3_findMostByTakes 59 = .ok (.iload_n 1, 1) := by decide +kernel
theorem dX3_findMostByTakes_60 : decode cX3_findMostByTakes 60 = .ok (.aload_n 0, 1) := by decide +kernel
theorem dX3_findMostByTakes_61 : decode cX3_findMostByTakes 61 = .ok (.getfield 49, 3) := by decide +kernel
theorem dX3_findMostByTakes_64 : decode cX3_findMostByTakes 64 = .ok (.iload_n 1, 1) := by decide +kernel
theorem dX3_findMostByTakes_65 : decode cX3_findMostByTakes 65 = .ok (.iaload, 1) := by decide +kernel
theorem dX3_findMostByTakes_66 : decode cX3_findMostByTakes 66 = .ok (.aload_n 0, 1) := by decide +kernel
theorem dX3_findMostByTakes_67 : decode cX3_findMostByTakes 67 = .ok (.getfield 19, 3) := by decide +kernel
theorem dX3_findMostByTakes_70 : decode cX3_findMostByTakes 70 = .ok (.iload_n 1, 1) := by decide +kernel
theorem dX3_findMostByTakes_71 : decode cX3_findMostByTakes 71 = .ok (.iload_n 2, 1) := by decide +kernel
theorem dX3_findMostByTakes_72 : decode cX3_findMostByTakes 72 = .ok (.iconst 1, 1) := by decide +kernel
theorem dX3_findMostByTakes_73 : decode cX3_findMostByTakes 73 = .ok (.invokevirtual 156, 3) := by decide +kernel
theorem dX3_findMostByTakes_76 : decode cX3_findMostByTakes 76 = .ok (.invokestatic 201, 3) := by decide +kernel
theorem dX3_findMostByTakes_79 : decode cX3_findMostByTakes 79 = .ok (.iastore, 1) := by decide +kernel
theorem dX3_findMostByTakes_80 : decode cX3_findMostByTakes 80 = .ok (.iinc 2 1, 3) := by decide +kernel
theorem dX3_findMostByTakes_83 : decode cX3_findMostByTakes 83 = .ok (.goto (-59), 3) := by decide +kernel
theorem dX3_findMostByTakes_86 : decode cX3_findMostByTakes 86 = .ok (.iinc 1 1, 3) := by decide +kernel
theorem dX3_findMostByTakes_89 : decode cX3_findMostByTakes 89 = .ok (.goto (-87), 3) := by decide +kernel
theorem dX3_findMostByTakes_92 : decode cX3_findMostByTakes 92 = .ok (.return_, 1) := by decide +kernel
