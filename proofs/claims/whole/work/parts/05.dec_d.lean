theorem dX4_plays_17 : decode cX4_plays 17 = .ok (.iload_n 2, 1) := by decide +kernel
theorem dX4_plays_18 : decode cX4_plays 18 = .ok (.iaload, 1) := by decide +kernel
theorem dX4_plays_19 : decode cX4_plays 19 = .ok (.iastore, 1) := by decide +kernel
theorem dX4_plays_20 : decode cX4_plays 20 = .ok (.iinc 2 1, 3) := by decide +kernel
theorem dX4_plays_23 : decode cX4_plays 23 = .ok (.goto (-21), 3) := by decide +kernel
theorem dX4_plays_26 : decode cX4_plays 26 = .ok (.iconst 0, 1) := by decide +kernel
theorem dX4_plays_27 : decode cX4_plays 27 = .ok (.istore_n 2, 1) := by decide +kernel
theorem dX4_plays_28 : decode cX4_plays 28 = .ok (.iload_n 2, 1) := by decide +kernel
theorem dX4_plays_29 : decode cX4_plays 29 = .ok (.iload_n 1, 1) := by decide +kernel
theorem dX4_plays_30 : decode cX4_plays 30 = .ok (.if_icmp .ge 13, 3) := by decide +kernel
theorem dX4_plays_33 : decode cX4_plays 33 = .ok (.aload_n 0, 1) := by decide +kernel
theorem dX4_plays_34 : decode cX4_plays 34 = .ok (.invokevirtual 112, 3) := by decide +kernel
theorem dX4_plays_37 : decode cX4_plays 37 = .ok (.iinc 2 1, 3) := by decide +kernel
theorem dX4_plays_40 : decode cX4_plays 40 = .ok (.goto (-12), 3) := by decide +kernel
theorem dX4_plays_43 : decode cX4_plays 43 = .ok (.return_, 1) := by decide +kernel
theorem dX4_shifts_0 : decode cX4_shifts 0 = .ok (.iload_n 1, 1) := by decide +kernel
theorem dX4_shifts_1 : decode cX4_shifts 1 = .ok (.iconst 1, 1) := by decide +kernel
theorem dX4_shifts_2 : decode cX4_shifts 2 = .ok (.bipush 40, 2) := by decide +kernel
theorem dX4_shifts_4 : decode cX4_shifts 4 = .ok (.invokestatic 40, 3) := by decide +kernel
theorem dX4_shifts_7 : decode cX4_shifts 7 = .ok (.ifCond .ne 5, 3) := by decide +kernel
theorem dX4_shifts_10 : decode cX4_shifts 10 = .ok (.iconst (-1), 1) := by decide +kernel
theorem dX4_shifts_11 : decode cX4_shifts 11 = .ok (.ireturn, 1) := by decide +kernel
theorem dX4_shifts_12 : decode cX4_shifts 12 = .ok (.aload_n 0, 1) := by decide +kernel
theorem dX4_shifts_13 : decode cX4_shifts 13 = .ok (.getfield 19, 3) := by decide +kernel
theorem dX4_shifts_16 : decode cX4_shifts 16 = .ok (.iconst 0, 1) := by decide +kernel
theorem dX4_shifts_17 : decode cX4_shifts 17 = .ok (.iaload, 1) := by decide +kernel
theorem dX4_shifts_18 : decode cX4_shifts 18 = .ok (.iload_n 1, 1) := by decide +kernel
theorem dX4_shifts_19 : decode cX4_shifts 19 = .ok (.iadd, 1) := by decide +kernel
theorem dX4_shifts_20 : decode cX4_shifts 20 = .ok (.sipush 9999, 3) := by decide +kernel
theorem dX4_shifts_23 : decode cX4_shifts 23 = .ok (.if_icmp .le 6, 3) := by decide +kernel
theorem dX4_shifts_26 : decode cX4_shifts 26 = .ok (.bipush (-2), 2) := by decide +kernel
theorem dX4_shifts_28 : decode cX4_shifts 28 = .ok (.ireturn, 1) := by decide +kernel
theorem dX4_shifts_29 : decode cX4_shifts 29 = .ok (.aload_n 0, 1) := by decide +kernel
theorem dX4_shifts_30 : decode cX4_shifts 30 = .ok (.iload_n 1, 1) := by decide +kernel
theorem dX4_shifts_31 : decode cX4_shifts 31 = .ok (.invokevirtual 115, 3) := by decide +kernel
theorem dX4_shifts_34 : decode cX4_shifts 34 = .ok (.iconst 0, 1) := by decide +kernel
theorem dX4_shifts_35 : decode cX4_shifts 35 = .ok (.istore_n 2, 1) := by decide +kernel
theorem dX4_shifts_36 : decode cX4_shifts 36 = .ok (.iload_n 2, 1) := by decide +kernel
theorem dX4_shifts_37 : decode cX4_shifts 37 = .ok (.bipush 16, 2) := by decide +kernel
theorem dX4_shifts_39 : decode cX4_shifts 39 = .ok (.if_icmp .ge 21, 3) := by decide +kernel
theorem dX4_shifts_42 : decode cX4_shifts 42 = .ok (.aload_n 0, 1) := by decide +kernel
theorem dX4_shifts_43 : decode cX4_shifts 43 = .ok (.getfield 19, 3) := by decide +kernel
theorem dX4_shifts_46 : decode cX4_shifts 46 = .ok (.iload_n 2, 1) := by decide +kernel
theorem dX4_shifts_47 : decode cX4_shifts 47 = .ok (.aload_n 0, 1) := by decide +kernel
theorem dX4_shifts_48 : decode cX4_shifts 48 = .ok (.getfield 22, 3) := by decide +kernel
theorem dX4_shifts_51 : decode cX4_shifts 51 = .ok (.iload_n 2, 1) := by decide +kernel
theorem dX4_shifts_52 : decode cX4_shifts 52 = .ok (.iaload, 1) := by decide +kernel
theorem dX4_shifts_53 : decode cX4_shifts 53 = .ok (.iastore, 1) := by decide +kernel
theorem dX4_shifts_54 : decode cX4_shifts 54 = .ok (.iinc 2 1, 3) := by decide +kernel
theorem dX4_shifts_57 : decode cX4_shifts 57 = .ok (.goto (-21), 3) := by decide +kernel
theorem dX4_shifts_60 : decode cX4_shifts 60 = .ok (.aload_n 0, 1) := by decide +kernel
theorem dX4_shifts_61 : decode cX4_shifts 61 = .ok (.getfield 19, 3) := by decide +kernel
theorem dX4_shifts_64 : decode cX4_shifts 64 = .ok (.iconst 0, 1) := by decide +kernel
theorem dX4_shifts_65 : decode cX4_shifts 65 = .ok (.iaload, 1) := by decide +kernel
theorem dX4_shifts_66 : decode cX4_shifts 66 = .ok (.ireturn, 1) := by decide +kernel
theorem dX4_has_0 : decode cX4_has 0 = .ok (.aload_n 0, 1) := by decide +kernel
theorem dX4_has_1 : decode cX4_has 1 = .ok (.getfield 13, 3) := by decide +kernel
theorem dX4_has_4 : decode cX4_has 4 = .ok (.bipush 8, 2) := by decide +kernel
theorem dX4_has_6 : decode cX4_has 6 = .ok (.iconst 2, 1) := by decide +kernel
theorem dX4_has_7 : decode cX4_has 7 = .ok (.iload_n 1, 1) := by decide +kernel
theorem dX4_has_8 : decode cX4_has 8 = .ok (.imul, 1) := by decide +kernel
theorem dX4_has_9 : decode cX4_has 9 = .ok (.iadd, 1) := by decide +kernel
theorem dX4_has_10 : decode cX4_has 10 = .ok (.iload_n 2, 1) := by decide +kernel
theorem dX4_has_11 : decode cX4_has 11 = .ok (.iadd, 1) := by decide +kernel
theorem dX4_has_12 : decode cX4_has 12 = .ok (.iaload, 1) := by decide +kernel
theorem dX4_has_13 : decode cX4_has 13 = .ok (.aload_n 0, 1) := by decide +kernel
theorem dX4_has_14 : decode cX4_has 14 = .ok (.getfield 13, 3) := by decide +kernel
theorem dX4_has_17 : decode cX4_has 17 = .ok (.bipush 32, 2) := by decide +kernel
theorem dX4_has_19 : decode cX4_has 19 = .ok (.bipush 8, 2) := by decide +kernel
theorem dX4_has_21 : decode cX4_has 21 = .ok (.iload_n 3, 1) := by decide +kernel
theorem dX4_has_22 : decode cX4_has 22 = .ok (.imul, 1) := by decide +kernel
theorem dX4_has_23 : decode cX4_has 23 = .ok (.iadd, 1) := by decide +kernel
theorem dX4_has_24 : decode cX4_has 24 = .ok (.iload 4, 2) := by decide +kernel
theorem dX4_has_26 : decode cX4_has 26 = .ok (.iadd, 1) := by decide +kernel
theorem dX4_has_27 : decode cX4_has 27 = .ok (.iaload, 1) := by decide +kernel
theorem dX4_has_28 : decode cX4_has 28 = .ok (.ishr, 1) := by decide +kernel
theorem dX4_has_29 : decode cX4_has 29 = .ok (.iconst 1, 1) := by decide +kernel
theorem dX4_has_30 : decode cX4_has 30 = .ok (.iand, 1) := by decide +kernel
theorem dX4_has_31 : decode cX4_has 31 = .ok (.iconst 1, 1) := by decide +kernel
theorem dX4_has_32 : decode cX4_has 32 = .ok (.if_icmp .ne 7, 3) := by decide +kernel
theorem dX4_has_35 : decode cX4_has 35 = .ok (.iconst 1, 1) := by decide +kernel
theorem dX4_has_36 : decode cX4_has 36 = .ok (.goto 4, 3) := by decide +kernel
theorem dX4_has_39 : decode cX4_has 39 = .ok (.iconst 0, 1) := by decide +kernel
theorem dX4_has_40 : decode cX4_has 40 = .ok (.ireturn, 1) := by decide +kernel
theorem dX4_doneBy_0 : decode cX4_doneBy 0 = .ok (.iconst 0, 1) := by decide +kernel
theorem dX4_doneBy_1 : decode cX4_doneBy 1 = .ok (.istore_n 3, 1) := by decide +kernel
theorem dX4_doneBy_2 : decode cX4_doneBy 2 = .ok (.iconst 0, 1) := by decide +kernel
theorem dX4_doneBy_3 : decode cX4_doneBy 3 = .ok (.istore 4, 2) := by decide +kernel
theorem dX4_doneBy_5 : decode cX4_doneBy 5 = .ok (.iconst 0, 1) := by decide +kernel
theorem dX4_doneBy_6 : decode cX4_doneBy 6 = .ok (.istore 5, 2) := by decide +kernel
theorem dX4_doneBy_8 : decode cX4_doneBy 8 = .ok (.iload_n 3, 1) := by decide +kernel
theorem dX4_doneBy_9 : decode cX4_doneBy 9 = .ok (.aload_n 0, 1) := by decide +kernel
theorem dX4_doneBy_10 : decode cX4_doneBy 10 = .ok (.getfield 13, 3) := by decide +kernel
theorem dX4_doneBy_13 : decode cX4_doneBy 13 = .ok (.bipush 28, 2) := by decide +kernel
theorem dX4_doneBy_15 : decode cX4_doneBy 15 = .ok (.iload_n 2, 1) := by decide +kernel
theorem dX4_doneBy_16 : decode cX4_doneBy 16 = .ok (.iadd, 1) := by decide +kernel
theorem dX4_doneBy_17 : decode cX4_doneBy 17 = .ok (.iaload, 1) := by decide +kernel
theorem dX4_doneBy_18 : decode cX4_doneBy 18 = .ok (.if_icmp .ge 102, 3) := by decide +kernel
theorem dX4_doneBy_21 : decode cX4_doneBy 21 = .ok (.iload 4, 2) := by decide +kernel
theorem dX4_doneBy_23 : decode cX4_doneBy 23 = .ok (.iconst 2, 1) := by decide +kernel
theorem dX4_doneBy_24 : decode cX4_doneBy 24 = .ok (.if_icmp .ge 96, 3) := by decide +kernel
theorem dX4_doneBy_27 : decode cX4_doneBy 27 = .ok (.aload_n 0, 1) := by decide +kernel
theorem dX4_doneBy_28 : decode cX4_doneBy 28 = .ok (.getfield 19, 3) := by decide +kernel
theorem dX4_doneBy_31 : decode cX4_doneBy 31 = .ok (.iconst 0, 1) := by decide +kernel
theorem dX4_doneBy_32 : decode cX4_doneBy 32 = .ok (.iaload, 1) := by decide +kernel
theorem dX4_doneBy_33 : decode cX4_doneBy 33 = .ok (.iload 5, 2) := by decide +kernel
theorem dX4_doneBy_35 : decode cX4_doneBy 35 = .ok (.iadd, 1) := by decide +kernel
theorem dX4_doneBy_36 : decode cX4_doneBy 36 = .ok (.iconst 2, 1) := by decide +kernel
theorem dX4_doneBy_37 : decode cX4_doneBy 37 = .ok (.irem, 1) := by decide +kernel
theorem dX4_doneBy_38 : decode cX4_doneBy 38 = .ok (.istore 6, 2) := by decide +kernel
theorem dX4_doneBy_40 : decode cX4_doneBy 40 = .ok (.iconst 0, 1) := by decide +kernel
theorem dX4_doneBy_41 : decode cX4_doneBy 41 = .ok (.istore 7, 2) := by decide +kernel
theorem dX4_doneBy_43 : decode cX4_doneBy 43 = .ok (.iload 7, 2) := by decide +kernel
theorem dX4_doneBy_45 : decode cX4_doneBy 45 = .ok (.aload_n 0, 1) := by decide +kernel
theorem dX4_doneBy_46 : decode cX4_doneBy 46 = .ok (.getfield 13, 3) := by decide +kernel
theorem dX4_doneBy_49 : decode cX4_doneBy 49 = .ok (.iconst 3, 1) := by decide +kernel
theorem dX4_doneBy_50 : decode cX4_doneBy 50 = .ok (.iaload, 1) := by decide +kernel
theorem dX4_doneBy_51 : decode cX4_doneBy 51 = .ok (.if_icmp .ge 48, 3) := by decide +kernel
theorem dX4_doneBy_54 : decode cX4_doneBy 54 = .ok (.iload_n 3, 1) := by decide +kernel
theorem dX4_doneBy_55 : decode cX4_doneBy 55 = .ok (.aload_n 0, 1) := by decide +kernel
theorem dX4_doneBy_56 : decode cX4_doneBy 56 = .ok (.getfield 13, 3) := by decide +kernel
theorem dX4_doneBy_59 : decode cX4_doneBy 59 = .ok (.bipush 28, 2) := by decide +kernel
theorem dX4_doneBy_61 : decode cX4_doneBy 61 = .ok (.iload_n 2, 1) := by decide +kernel
theorem dX4_doneBy_62 : decode cX4_doneBy 62 = .ok (.iadd, 1) := by decide +kernel
theorem dX4_doneBy_63 : decode cX4_doneBy 63 = .ok (.iaload, 1) := by decide +kernel
theorem dX4_doneBy_64 : decode cX4_doneBy 64 = .ok (.if_icmp .ge 35, 3) := by decide +kernel
theorem dX4_doneBy_67 : decode cX4_doneBy 67 = .ok (.aload_n 0, 1) := by decide +kernel
theorem dX4_doneBy_68 : decode cX4_doneBy 68 = .ok (.iload_n 1, 1) := by decide +kernel
theorem dX4_doneBy_69 : decode cX4_doneBy 69 = .ok (.iload 6, 2) := by decide +kernel
theorem dX4_doneBy_71 : decode cX4_doneBy 71 = .ok (.iload_n 2, 1) := by decide +kernel
theorem dX4_doneBy_72 : decode cX4_doneBy 72 = .ok (.iload_n 3, 1) := by decide +kernel
theorem dX4_doneBy_73 : decode cX4_doneBy 73 = .ok (.bipush 8, 2) := by decide +kernel
theorem dX4_doneBy_75 : decode cX4_doneBy 75 = .ok (.if_icmp .ge 7, 3) := by decide +kernel
theorem dX4_doneBy_78 : decode cX4_doneBy 78 = .ok (.iload_n 3, 1) := by decide +kernel
theorem dX4_doneBy_79 : decode cX4_doneBy 79 = .ok (.goto 5, 3) := by decide +kernel
theorem dX4_doneBy_82 : decode cX4_doneBy 82 = .ok (.bipush 7, 2) := by decide +kernel
theorem dX4_doneBy_84 : decode cX4_doneBy 84 = .ok (.invokevirtual 119, 3) := by decide +kernel
theorem dX4_doneBy_87 : decode cX4_doneBy 87 = .ok (.ifCond .eq 12, 3) := by decide +kernel
theorem dX4_doneBy_90 : decode cX4_doneBy 90 = .ok (.iinc 7 1, 3) := by decide +kernel
theorem dX4_doneBy_93 : decode cX4_doneBy 93 = .ok (.iinc 3 1, 3) := by decide +kernel
theorem dX4_doneBy_96 : decode cX4_doneBy 96 = .ok (.goto (-53), 3) := by decide +kernel
theorem dX4_doneBy_99 : decode cX4_doneBy 99 = .ok (.iload 7, 2) := by decide +kernel
theorem dX4_doneBy_101 : decode cX4_doneBy 101 = .ok (.ifCond .le 7, 3) := by decide +kernel
theorem dX4_doneBy_104 : decode cX4_doneBy 104 = .ok (.iconst 0, 1) := by decide +kernel
theorem dX4_doneBy_105 : decode cX4_doneBy 105 = .ok (.goto 7, 3) := by decide +kernel
theorem dX4_doneBy_108 : decode cX4_doneBy 108 = .ok (.iload 4, 2) := by decide +kernel
theorem dX4_doneBy_110 : decode cX4_doneBy 110 = .ok (.iconst 1, 1) := by decide +kernel
theorem dX4_doneBy_111 : decode cX4_doneBy 111 = .ok (.iadd, 1) := by decide +kernel
theorem dX4_doneBy_112 : decode cX4_doneBy 112 = .ok (.istore 4, 2) := by decide +kernel
theorem dX4_doneBy_114 : decode cX4_doneBy 114 = .ok (.iinc 5 1, 3) := by decide +kernel
theorem dX4_doneBy_117 : decode cX4_doneBy 117 = .ok (.goto (-109), 3) := by decide +kernel
theorem dX4_doneBy_120 : decode cX4_doneBy 120 = .ok (.iload_n 3, 1) := by decide +kernel
theorem dX4_doneBy_121 : decode cX4_doneBy 121 = .ok (.aload_n 0, 1) := by decide +kernel
theorem dX4_doneBy_122 : decode cX4_doneBy 122 = .ok (.getfield 13, 3) := by decide +kernel
theorem dX4_doneBy_125 : decode cX4_doneBy 125 = .ok (.bipush 28, 2) := by decide +kernel
theorem dX4_doneBy_127 : decode cX4_doneBy 127 = .ok (.iload_n 2, 1) := by decide +kernel
theorem dX4_doneBy_128 : decode cX4_doneBy 128 = .ok (.iadd, 1) := by decide +kernel
theorem dX4_doneBy_129 : decode cX4_doneBy 129 = .ok (.iaload, 1) := by decide +kernel
theorem dX4_doneBy_130 : decode cX4_doneBy 130 = .ok (.if_icmp .ne 8, 3) := by decide +kernel
theorem dX4_doneBy_133 : decode cX4_doneBy 133 = .ok (.iload 5, 2) := by decide +kernel
theorem dX4_doneBy_135 : decode cX4_doneBy 135 = .ok (.goto 5, 3) := by decide +kernel
theorem dX4_doneBy_138 : decode cX4_doneBy 138 = .ok (.bipush (-4), 2) := by decide +kernel
theorem dX4_doneBy_140 : decode cX4_doneBy 140 = .ok (.ireturn, 1) := by decide +kernel
theorem dX4_done_0 : decode cX4_done 0 = .ok (.aload_n 0, 1) := by decide +kernel
theorem dX4_done_1 : decode cX4_done 1 = .ok (.iload_n 1, 1) := by decide +kernel
theorem dX4_done_2 : decode cX4_done 2 = .ok (.invokevirtual 99, 3) := by decide +kernel
theorem dX4_done_5 : decode cX4_done 5 = .ok (.ifCond .eq 20, 3) := by decide +kernel
theorem dX4_done_8 : decode cX4_done 8 = .ok (.aload_n 0, 1) := by decide +kernel
theorem dX4_done_9 : decode cX4_done 9 = .ok (.iload_n 2, 1) := by decide +kernel
theorem dX4_done_10 : decode cX4_done 10 = .ok (.invokevirtual 123, 3) := by decide +kernel
theorem dX4_done_13 : decode cX4_done 13 = .ok (.ifCond .eq 12, 3) := by decide +kernel
theorem dX4_done_16 : decode cX4_done 16 = .ok (.aload_n 0, 1) := by decide +kernel
theorem dX4_done_17 : decode cX4_done 17 = .ok (.iload_n 1, 1) := by decide +kernel
theorem dX4_done_18 : decode cX4_done 18 = .ok (.iload_n 2, 1) := by decide +kernel
theorem dX4_done_19 : decode cX4_done 19 = .ok (.invokevirtual 126, 3) := by decide +kernel
theorem dX4_done_22 : decode cX4_done 22 = .ok (.goto 4, 3) := by decide +kernel
theorem dX4_done_25 : decode cX4_done 25 = .ok (.iconst (-1), 1) := by decide +kernel
theorem dX4_done_26 : decode cX4_done 26 = .ok (.ireturn, 1) := by decide +kernel
theorem dX4_handed_0 : decode cX4_handed 0 = .ok (.aload_n 0, 1) := by decide +kernel
theorem dX4_handed_1 : decode cX4_handed 1 = .ok (.iload_n 1, 1) := by decide +kernel
theorem dX4_handed_2 : decode cX4_handed 2 = .ok (.invokevirtual 99, 3) := by decide +kernel
theorem dX4_handed_5 : decode cX4_handed 5 = .ok (.ifCond .eq 11, 3) := by decide +kernel
theorem dX4_handed_8 : decode cX4_handed 8 = .ok (.aload_n 0, 1) := by decide +kernel
theorem dX4_handed_9 : decode cX4_handed 9 = .ok (.iload_n 2, 1) := by decide +kernel
theorem dX4_handed_10 : decode cX4_handed 10 = .ok (.invokevirtual 123, 3) := by decide +kernel
theorem dX4_handed_13 : decode cX4_handed 13 = .ok (.ifCond .ne 5, 3) := by decide +kernel
theorem dX4_handed_16 : decode cX4_handed 16 = .ok (.iconst (-1), 1) := by decide +kernel
theorem dX4_handed_17 : decode cX4_handed 17 = .ok (.ireturn, 1) := by decide +kernel
theorem dX4_handed_18 : decode cX4_handed 18 = .ok (.aload_n 0, 1) := by decide +kernel
theorem dX4_handed_19 : decode cX4_handed 19 = .ok (.getfield 13, 3) := by decide +kernel
theorem dX4_handed_22 : decode cX4_handed 22 = .ok (.bipush 28, 2) := by decide +kernel
theorem dX4_handed_24 : decode cX4_handed 24 = .ok (.iload_n 2, 1) := by decide +kernel
theorem dX4_handed_25 : decode cX4_handed 25 = .ok (.iadd, 1) := by decide +kernel
theorem dX4_handed_26 : decode cX4_handed 26 = .ok (.iaload, 1) := by decide +kernel
theorem dX4_handed_27 : decode cX4_handed 27 = .ok (.istore_n 3, 1) := by decide +kernel
theorem dX4_handed_28 : decode cX4_handed 28 = .ok (.bipush (-4), 2) := by decide +kernel
theorem dX4_handed_30 : decode cX4_handed 30 = .ok (.istore 4, 2) := by decide +kernel
theorem dX4_handed_32 : decode cX4_handed 32 = .ok (.iconst 0, 1) := by decide +kernel
theorem dX4_handed_33 : decode cX4_handed 33 = .ok (.istore 5, 2) := by decide +kernel
theorem dX4_handed_35 : decode cX4_handed 35 = .ok (.iload 5, 2) := by decide +kernel
theorem dX4_handed_37 : decode cX4_handed 37 = .ok (.iconst 1, 1) := by decide +kernel
theorem dX4_handed_38 : decode cX4_handed 38 = .ok (.iload_n 3, 1) := by decide +kernel
theorem dX4_handed_39 : decode cX4_handed 39 = .ok (.ishl, 1) := by decide +kernel
theorem dX4_handed_40 : decode cX4_handed 40 = .ok (.if_icmp .ge 122, 3) := by decide +kernel
theorem dX4_handed_43 : decode cX4_handed 43 = .ok (.iconst 1, 1) := by decide +kernel
theorem dX4_handed_44 : decode cX4_handed 44 = .ok (.istore 6, 2) := by decide +kernel
theorem dX4_handed_46 : decode cX4_handed 46 = .ok (.iconst 0, 1) := by decide +kernel
theorem dX4_handed_47 : decode cX4_handed 47 = .ok (.istore 7, 2) := by decide +kernel
theorem dX4_handed_49 : decode cX4_handed 49 = .ok (.iconst 0, 1) := by decide +kernel
theorem dX4_handed_50 : decode cX4_handed 50 = .ok (.istore 8, 2) := by decide +kernel
theorem dX4_handed_52 : decode cX4_handed 52 = .ok (.iload 8, 2) := by decide +kernel
theorem dX4_handed_54 : decode cX4_handed 54 = .ok (.iload_n 3, 1) := by decide +kernel
theorem dX4_handed_55 : decode cX4_handed 55 = .ok (.if_icmp .ge 73, 3) := by decide +kernel
theorem dX4_handed_58 : decode cX4_handed 58 = .ok (.iload 6, 2) := by decide +kernel
theorem dX4_handed_60 : decode cX4_handed 60 = .ok (.ifCond .eq 25, 3) := by decide +kernel
theorem dX4_handed_63 : decode cX4_handed 63 = .ok (.aload_n 0, 1) := by decide +kernel
theorem dX4_handed_64 : decode cX4_handed 64 = .ok (.iload_n 1, 1) := by decide +kernel
theorem dX4_handed_65 : decode cX4_handed 65 = .ok (.iload 5, 2) := by decide +kernel
theorem dX4_handed_67 : decode cX4_handed 67 = .ok (.iload 8, 2) := by decide +kernel
theorem dX4_handed_69 : decode cX4_handed 69 = .ok (.ishr, 1) := by decide +kernel
theorem dX4_handed_70 : decode cX4_handed 70 = .ok (.iconst 1, 1) := by decide +kernel
theorem dX4_handed_71 : decode cX4_handed 71 = .ok (.iand, 1) := by decide +kernel
theorem dX4_handed_72 : decode cX4_handed 72 = .ok (.iload_n 2, 1) := by decide +kernel
theorem dX4_handed_73 : decode cX4_handed 73 = .ok (.iload 8, 2) := by decide +kernel
theorem dX4_handed_75 : decode cX4_handed 75 = .ok (.invokevirtual 119, 3) := by decide +kernel
theorem dX4_handed_78 : decode cX4_handed 78 = .ok (.ifCond .eq 7, 3) := by decide +kernel
theorem dX4_handed_81 : decode cX4_handed 81 = .ok (.iconst 1, 1) := by decide +kernel
theorem dX4_handed_82 : decode cX4_handed 82 = .ok (.goto 4, 3) := by decide +kernel
theorem dX4_handed_85 : decode cX4_handed 85 = .ok (.iconst 0, 1) := by decide +kernel
theorem dX4_handed_86 : decode cX4_handed 86 = .ok (.istore 6, 2) := by decide +kernel
theorem dX4_handed_88 : decode cX4_handed 88 = .ok (.iload 7, 2) := by decide +kernel
theorem dX4_handed_90 : decode cX4_handed 90 = .ok (.iload 8, 2) := by decide +kernel
theorem dX4_handed_92 : decode cX4_handed 92 = .ok (.ifCond .le 26, 3) := by decide +kernel
theorem dX4_handed_95 : decode cX4_handed 95 = .ok (.iload 5, 2) := by decide +kernel
theorem dX4_handed_97 : decode cX4_handed 97 = .ok (.iload 8, 2) := by decide +kernel
theorem dX4_handed_99 : decode cX4_handed 99 = .ok (.ishr, 1) := by decide +kernel
theorem dX4_handed_100 : decode cX4_handed 100 = .ok (.iconst 1, 1) := by decide +kernel
theorem dX4_handed_101 : decode cX4_handed 101 = .ok (.iand, 1) := by decide +kernel
theorem dX4_handed_102 : decode cX4_handed 102 = .ok (.iload 5, 2) := by decide +kernel
theorem dX4_handed_104 : decode cX4_handed 104 = .ok (.iload 8, 2) := by decide +kernel
theorem dX4_handed_106 : decode cX4_handed 106 = .ok (.iconst 1, 1) := by decide +kernel
theorem dX4_handed_107 : decode cX4_handed 107 = .ok (.isub, 1) := by decide +kernel
theorem dX4_handed_108 : decode cX4_handed 108 = .ok (.ishr, 1) := by decide +kernel
theorem dX4_handed_109 : decode cX4_handed 109 = .ok (.iconst 1, 1) := by decide +kernel
theorem dX4_handed_110 : decode cX4_handed 110 = .ok (.iand, 1) := by decide +kernel
theorem dX4_handed_111 : decode cX4_handed 111 = .ok (.if_icmp .eq 7, 3) := by decide +kernel
theorem dX4_handed_114 : decode cX4_handed 114 = .ok (.iconst 1, 1) := by decide +kernel
theorem dX4_handed_115 : decode cX4_handed 115 = .ok (.goto 4, 3) := by decide +kernel
theorem dX4_handed_118 : decode cX4_handed 118 = .ok (.iconst 0, 1) := by decide +kernel
theorem dX4_handed_119 : decode cX4_handed 119 = .ok (.iadd, 1) := by decide +kernel
theorem dX4_handed_120 : decode cX4_handed 120 = .ok (.istore 7, 2) := by decide +kernel
theorem dX4_handed_122 : decode cX4_handed 122 = .ok (.iinc 8 1, 3) := by decide +kernel
theorem dX4_handed_125 : decode cX4_handed 125 = .ok (.goto (-73), 3) := by decide +kernel
theorem dX4_handed_128 : decode cX4_handed 128 = .ok (.iload 6, 2) := by decide +kernel
theorem dX4_handed_130 : decode cX4_handed 130 = .ok (.ifCond .eq 22, 3) := by decide +kernel
theorem dX4_handed_133 : decode cX4_handed 133 = .ok (.iload 4, 2) := by decide +kernel
theorem dX4_handed_135 : decode cX4_handed 135 = .ok (.bipush (-4), 2) := by decide +kernel
theorem dX4_handed_137 : decode cX4_handed 137 = .ok (.if_icmp .eq 10, 3) := by decide +kernel
theorem dX4_handed_140 : decode cX4_handed 140 = .ok (.iload 7, 2) := by decide +kernel
theorem dX4_handed_142 : decode cX4_handed 142 = .ok (.iload 4, 2) := by decide +kernel
theorem dX4_handed_144 : decode cX4_handed 144 = .ok (.if_icmp .ge 8, 3) := by decide +kernel
theorem dX4_handed_147 : decode cX4_handed 147 = .ok (.iload 7, 2) := by decide +kernel
theorem dX4_handed_149 : decode cX4_handed 149 = .ok (.goto 5, 3) := by decide +kernel
theorem dX4_handed_152 : decode cX4_handed 152 = .ok (.iload 4, 2) := by decide +kernel
theorem dX4_handed_154 : decode cX4_handed 154 = .ok (.istore 4, 2) := by decide +kernel
theorem dX4_handed_156 : decode cX4_handed 156 = .ok (.iinc 5 1, 3) := by decide +kernel
theorem dX4_handed_159 : decode cX4_handed 159 = .ok (.goto (-124), 3) := by decide +kernel
theorem dX4_handed_162 : decode cX4_handed 162 = .ok (.iload 4, 2) := by decide +kernel
theorem dX4_handed_164 : decode cX4_handed 164 = .ok (.ireturn, 1) := by decide +kernel
theorem dX4_best_0 : decode cX4_best 0 = .ok (.aload_n 0, 1) := by decide +kernel
theorem dX4_best_1 : decode cX4_best 1 = .ok (.iload_n 1, 1) := by decide +kernel
theorem dX4_best_2 : decode cX4_best 2 = .ok (.invokevirtual 123, 3) := by decide +kernel
theorem dX4_best_5 : decode cX4_best 5 = .ok (.ifCond .ne 5, 3) := by decide +kernel
theorem dX4_best_8 : decode cX4_best 8 = .ok (.iconst (-1), 1) := by decide +kernel
theorem dX4_best_9 : decode cX4_best 9 = .ok (.ireturn, 1) := by decide +kernel
theorem dX4_best_10 : decode cX4_best 10 = .ok (.bipush (-4), 2) := by decide +kernel
theorem dX4_best_12 : decode cX4_best 12 = .ok (.istore_n 2, 1) := by decide +kernel
theorem dX4_best_13 : decode cX4_best 13 = .ok (.iconst 0, 1) := by decide +kernel
theorem dX4_best_14 : decode cX4_best 14 = .ok (.istore_n 3, 1) := by decide +kernel
theorem dX4_best_15 : decode cX4_best 15 = .ok (.aload_n 0, 1) := by decide +kernel
theorem dX4_best_16 : decode cX4_best 16 = .ok (.getfield 13, 3) := by decide +kernel
theorem dX4_best_19 : decode cX4_best 19 = .ok (.iconst 0, 1) := by decide +kernel
theorem dX4_best_20 : decode cX4_best 20 = .ok (.iaload, 1) := by decide +kernel
theorem dX4_best_21 : decode cX4_best 21 = .ok (.iconst 1, 1) := by decide +kernel
theorem dX4_best_22 : decode cX4_best 22 = .ok (.isub, 1) := by decide +kernel
theorem dX4_best_23 : decode cX4_best 23 = .ok (.istore 4, 2) := by decide +kernel
theorem dX4_best_25 : decode cX4_best 25 = .ok (.iload 4, 2) := by decide +kernel
theorem dX4_best_27 : decode cX4_best 27 = .ok (.ifCond .lt 68, 3) := by decide +kernel
theorem dX4_best_30 : decode cX4_best 30 = .ok (.aload_n 0, 1) := by decide +kernel
theorem dX4_best_31 : decode cX4_best 31 = .ok (.iload 4, 2) := by decide +kernel
theorem dX4_best_33 : decode cX4_best 33 = .ok (.iload_n 1, 1) := by decide +kernel
theorem dX4_best_34 : decode cX4_best 34 = .ok (.invokevirtual 126, 3) := by decide +kernel
theorem dX4_best_37 : decode cX4_best 37 = .ok (.istore 5, 2) := by decide +kernel
theorem dX4_best_39 : decode cX4_best 39 = .ok (.iload 5, 2) := by decide +kernel
theorem dX4_best_41 : decode cX4_best 41 = .ok (.bipush (-4), 2) := by decide +kernel
theorem dX4_best_43 : decode cX4_best 43 = .ok (.if_icmp .eq 19, 3) := by decide +kernel
theorem dX4_best_46 : decode cX4_best 46 = .ok (.iload_n 2, 1) := by decide +kernel
theorem dX4_best_47 : decode cX4_best 47 = .ok (.bipush (-4), 2) := by decide +kernel
theorem dX4_best_49 : decode cX4_best 49 = .ok (.if_icmp .eq 9, 3) := by decide +kernel
theorem dX4_best_52 : decode cX4_best 52 = .ok (.iload 5, 2) := by decide +kernel
theorem dX4_best_54 : decode cX4_best 54 = .ok (.iload_n 3, 1) := by decide +kernel
theorem dX4_best_55 : decode cX4_best 55 = .ok (.if_icmp .gt 7, 3) := by decide +kernel
theorem dX4_best_58 : decode cX4_best 58 = .ok (.iconst 1, 1) := by decide +kernel
theorem dX4_best_59 : decode cX4_best 59 = .ok (.goto 4, 3) := by decide +kernel
theorem dX4_best_62 : decode cX4_best 62 = .ok (.iconst 0, 1) := by decide +kernel
theorem dX4_best_63 : decode cX4_best 63 = .ok (.istore 6, 2) := by decide +kernel
theorem dX4_best_65 : decode cX4_best 65 = .ok (.iload 6, 2) := by decide +kernel
theorem dX4_best_67 : decode cX4_best 67 = .ok (.ifCond .eq 8, 3) := by decide +kernel
theorem dX4_best_70 : decode cX4_best 70 = .ok (.iload 4, 2) := by decide +kernel
theorem dX4_best_72 : decode cX4_best 72 = .ok (.goto 4, 3) := by decide +kernel
theorem dX4_best_75 : decode cX4_best 75 = .ok (.iload_n 2, 1) := by decide +kernel
theorem dX4_best_76 : decode cX4_best 76 = .ok (.istore_n 2, 1) := by decide +kernel
theorem dX4_best_77 : decode cX4_best 77 = .ok (.iload 6, 2) := by decide +kernel
theorem dX4_best_79 : decode cX4_best 79 = .ok (.ifCond .eq 8, 3) := by decide +kernel
theorem dX4_best_82 : decode cX4_best 82 = .ok (.iload 5, 2) := by decide +kernel
theorem dX4_best_84 : decode cX4_best 84 = .ok (.goto 4, 3) := by decide +kernel
theorem dX4_best_87 : decode cX4_best 87 = .ok (.iload_n 3, 1) := by decide +kernel
theorem dX4_best_88 : decode cX4_best 88 = .ok (.istore_n 3, 1) := by decide +kernel
theorem dX4_best_89 : decode cX4_best 89 = .ok (.iinc 4 (-1), 3) := by decide +kernel
theorem dX4_best_92 : decode cX4_best 92 = .ok (.goto (-67), 3) := by decide +kernel
theorem dX4_best_95 : decode cX4_best 95 = .ok (.iload_n 2, 1) := by decide +kernel
theorem dX4_best_96 : decode cX4_best 96 = .ok (.ireturn, 1) := by decide +kernel
theorem dX4_knows_0 : decode cX4_knows 0 = .ok (.iload_n 1, 1) := by decide +kernel
theorem dX4_knows_1 : decode cX4_knows 1 = .ok (.iconst 0, 1) := by decide +kernel
theorem dX4_knows_2 : decode cX4_knows 2 = .ok (.bipush 40, 2) := by decide +kernel
theorem dX4_knows_4 : decode cX4_knows 4 = .ok (.invokestatic 40, 3) := by decide +kernel
theorem dX4_knows_7 : decode cX4_knows 7 = .ok (.ifCond .eq 20, 3) := by decide +kernel
theorem dX4_knows_10 : decode cX4_knows 10 = .ok (.aload_n 0, 1) := by decide +kernel
theorem dX4_knows_11 : decode cX4_knows 11 = .ok (.iload_n 2, 1) := by decide +kernel
theorem dX4_knows_12 : decode cX4_knows 12 = .ok (.invokevirtual 99, 3) := by decide +kernel
theorem dX4_knows_15 : decode cX4_knows 15 = .ok (.ifCond .eq 12, 3) := by decide +kernel
theorem dX4_knows_18 : decode cX4_knows 18 = .ok (.iload_n 3, 1) := by decide +kernel
theorem dX4_knows_19 : decode cX4_knows 19 = .ok (.iconst 0, 1) := by decide +kernel
theorem dX4_knows_20 : decode cX4_knows 20 = .ok (.iconst 1, 1) := by decide +kernel
theorem dX4_knows_21 : decode cX4_knows 21 = .ok (.invokestatic 40, 3) := by decide +kernel
theorem dX4_knows_24 : decode cX4_knows 24 = .ok (.ifCond .ne 5, 3) := by decide +kernel
theorem dX4_knows_27 : decode cX4_knows 27 = .ok (.iconst (-1), 1) := by decide +kernel
theorem dX4_knows_28 : decode cX4_knows 28 = .ok (.ireturn, 1) := by decide +kernel
theorem dX4_knows_29 : decode cX4_knows 29 = .ok (.aload_n 0, 1) := by decide +kernel
theorem dX4_knows_30 : decode cX4_knows 30 = .ok (.iload_n 1, 1) := by decide +kernel
theorem dX4_knows_31 : decode cX4_knows 31 = .ok (.invokevirtual 115, 3) := by decide +kernel
theorem dX4_knows_34 : decode cX4_knows 34 = .ok (.aload_n 0, 1) := by decide +kernel
theorem dX4_knows_35 : decode cX4_knows 35 = .ok (.getfield 22, 3) := by decide +kernel
theorem dX4_knows_38 : decode cX4_knows 38 = .ok (.iconst 1, 1) := by decide +kernel
theorem dX4_knows_39 : decode cX4_knows 39 = .ok (.iconst 2, 1) := by decide +kernel
theorem dX4_knows_40 : decode cX4_knows 40 = .ok (.iload_n 2, 1) := by decide +kernel
theorem dX4_knows_41 : decode cX4_knows 41 = .ok (.imul, 1) := by decide +kernel
theorem dX4_knows_42 : decode cX4_knows 42 = .ok (.iadd, 1) := by decide +kernel
theorem dX4_knows_43 : decode cX4_knows 43 = .ok (.iload_n 3, 1) := by decide +kernel
theorem dX4_knows_44 : decode cX4_knows 44 = .ok (.iadd, 1) := by decide +kernel
theorem dX4_knows_45 : decode cX4_knows 45 = .ok (.iaload, 1) := by decide +kernel
theorem dX4_knows_46 : decode cX4_knows 46 = .ok (.ireturn, 1) := by decide +kernel
theorem dX4_whoKnow_0 : decode cX4_whoKnow 0 = .ok (.iconst 0, 1) := by decide +kernel
theorem dX4_whoKnow_1 : decode cX4_whoKnow 1 = .ok (.istore_n 2, 1) := by decide +kernel
theorem dX4_whoKnow_2 : decode cX4_whoKnow 2 = .ok (.iconst 0, 1) := by decide +kernel
theorem dX4_whoKnow_3 : decode cX4_whoKnow 3 = .ok (.istore_n 3, 1) := by decide +kernel
theorem dX4_whoKnow_4 : decode cX4_whoKnow 4 = .ok (.iload_n 3, 1) := by decide +kernel
theorem dX4_whoKnow_5 : decode cX4_whoKnow 5 = .ok (.aload_n 0, 1) := by decide +kernel
theorem dX4_whoKnow_6 : decode cX4_whoKnow 6 = .ok (.getfield 13, 3) := by decide +kernel
theorem dX4_whoKnow_9 : decode cX4_whoKnow 9 = .ok (.iconst 0, 1) := by decide +kernel
theorem dX4_whoKnow_10 : decode cX4_whoKnow 10 = .ok (.iaload, 1) := by decide +kernel
theorem dX4_whoKnow_11 : decode cX4_whoKnow 11 = .ok (.if_icmp .ge 45, 3) := by decide +kernel
theorem dX4_whoKnow_14 : decode cX4_whoKnow 14 = .ok (.iload_n 2, 1) := by decide +kernel
theorem dX4_whoKnow_15 : decode cX4_whoKnow 15 = .ok (.iload_n 1, 1) := by decide +kernel
theorem dX4_whoKnow_16 : decode cX4_whoKnow 16 = .ok (.aload_n 0, 1) := by decide +kernel
theorem dX4_whoKnow_17 : decode cX4_whoKnow 17 = .ok (.getfield 22, 3) := by decide +kernel
theorem dX4_whoKnow_20 : decode cX4_whoKnow 20 = .ok (.iconst 1, 1) := by decide +kernel
theorem dX4_whoKnow_21 : decode cX4_whoKnow 21 = .ok (.iconst 2, 1) := by decide +kernel
theorem dX4_whoKnow_22 : decode cX4_whoKnow 22 = .ok (.iload_n 3, 1) := by decide +kernel
theorem dX4_whoKnow_23 : decode cX4_whoKnow 23 = .ok (.imul, 1) := by decide +kernel
theorem dX4_whoKnow_24 : decode cX4_whoKnow 24 = .ok (.iadd, 1) := by decide +kernel
theorem dX4_whoKnow_25 : decode cX4_whoKnow 25 = .ok (.aload_n 0, 1) := by decide +kernel
theorem dX4_whoKnow_26 : decode cX4_whoKnow 26 = .ok (.getfield 22, 3) := by decide +kernel
theorem dX4_whoKnow_29 : decode cX4_whoKnow 29 = .ok (.iconst 0, 1) := by decide +kernel
theorem dX4_whoKnow_30 : decode cX4_whoKnow 30 = .ok (.iaload, 1) := by decide +kernel
theorem dX4_whoKnow_31 : decode cX4_whoKnow 31 = .ok (.iconst 2, 1) := by decide +kernel
theorem dX4_whoKnow_32 : decode cX4_whoKnow 32 = .ok (.irem, 1) := by decide +kernel
theorem dX4_whoKnow_33 : decode cX4_whoKnow 33 = .ok (.iadd, 1) := by decide +kernel
theorem dX4_whoKnow_34 : decode cX4_whoKnow 34 = .ok (.iaload, 1) := by decide +kernel
theorem dX4_whoKnow_35 : decode cX4_whoKnow 35 = .ok (.iconst (-1), 1) := by decide +kernel
theorem dX4_whoKnow_36 : decode cX4_whoKnow 36 = .ok (.ixor, 1) := by decide +kernel
theorem dX4_whoKnow_37 : decode cX4_whoKnow 37 = .ok (.iand, 1) := by decide +kernel
theorem dX4_whoKnow_38 : decode cX4_whoKnow 38 = .ok (.ifCond .ne 9, 3) := by decide +kernel
theorem dX4_whoKnow_41 : decode cX4_whoKnow 41 = .ok (.iconst 1, 1) := by decide +kernel
theorem dX4_whoKnow_42 : decode cX4_whoKnow 42 = .ok (.iload_n 3, 1) := by decide +kernel
theorem dX4_whoKnow_43 : decode cX4_whoKnow 43 = .ok (.ishl, 1) := by decide +kernel
theorem dX4_whoKnow_44 : decode cX4_whoKnow 44 = .ok (.goto 4, 3) := by decide +kernel
theorem dX4_whoKnow_47 : decode cX4_whoKnow 47 = .ok (.iconst 0, 1) := by decide +kernel
theorem dX4_whoKnow_48 : decode cX4_whoKnow 48 = .ok (.ior, 1) := by decide +kernel
theorem dX4_whoKnow_49 : decode cX4_whoKnow 49 = .ok (.istore_n 2, 1) := by decide +kernel
theorem dX4_whoKnow_50 : decode cX4_whoKnow 50 = .ok (.iinc 3 1, 3) := by decide +kernel
theorem dX4_whoKnow_53 : decode cX4_whoKnow 53 = .ok (.goto (-49), 3) := by decide +kernel
theorem dX4_whoKnow_56 : decode cX4_whoKnow 56 = .ok (.iload_n 2, 1) := by decide +kernel
theorem dX4_whoKnow_57 : decode cX4_whoKnow 57 = .ok (.ireturn, 1) := by decide +kernel
theorem dX4_could_0 : decode cX4_could 0 = .ok (.iload_n 1, 1) := by decide +kernel
theorem dX4_could_1 : decode cX4_could 1 = .ok (.iconst 0, 1) := by decide +kernel
theorem dX4_could_2 : decode cX4_could 2 = .ok (.bipush 40, 2) := by decide +kernel
theorem dX4_could_4 : decode cX4_could 4 = .ok (.invokestatic 40, 3) := by decide +kernel
theorem dX4_could_7 : decode cX4_could 7 = .ok (.ifCond .eq 10, 3) := by decide +kernel
theorem dX4_could_10 : decode cX4_could 10 = .ok (.iload_n 2, 1) := by decide +kernel
theorem dX4_could_11 : decode cX4_could 11 = .ok (.invokestatic 105, 3) := by decide +kernel
theorem dX4_could_14 : decode cX4_could 14 = .ok (.ifCond .ne 5, 3) := by decide +kernel
theorem dX4_could_17 : decode cX4_could 17 = .ok (.iconst (-1), 1) := by decide +kernel
theorem dX4_could_18 : decode cX4_could 18 = .ok (.ireturn, 1) := by decide +kernel
theorem dX4_could_19 : decode cX4_could 19 = .ok (.aload_n 0, 1) := by decide +kernel
theorem dX4_could_20 : decode cX4_could 20 = .ok (.iload_n 1, 1) := by decide +kernel
theorem dX4_could_21 : decode cX4_could 21 = .ok (.invokevirtual 115, 3) := by decide +kernel
theorem dX4_could_24 : decode cX4_could 24 = .ok (.aload_n 0, 1) := by decide +kernel
theorem dX4_could_25 : decode cX4_could 25 = .ok (.iload_n 2, 1) := by decide +kernel
theorem dX4_could_26 : decode cX4_could 26 = .ok (.invokevirtual 129, 3) := by decide +kernel
theorem dX4_could_29 : decode cX4_could 29 = .ok (.ireturn, 1) := by decide +kernel
theorem dX4_alike_0 : decode cX4_alike 0 = .ok (.aload_n 0, 1) := by decide +kernel
theorem dX4_alike_1 : decode cX4_alike 1 = .ok (.iload_n 1, 1) := by decide +kernel
theorem dX4_alike_2 : decode cX4_alike 2 = .ok (.invokevirtual 99, 3) := by decide +kernel
theorem dX4_alike_5 : decode cX4_alike 5 = .ok (.ifCond .ne 5, 3) := by decide +kernel
theorem dX4_alike_8 : decode cX4_alike 8 = .ok (.iconst (-1), 1) := by decide +kernel
theorem dX4_alike_9 : decode cX4_alike 9 = .ok (.ireturn, 1) := by decide +kernel
theorem dX4_alike_10 : decode cX4_alike 10 = .ok (.aload_n 0, 1) := by decide +kernel
theorem dX4_alike_11 : decode cX4_alike 11 = .ok (.iconst 0, 1) := by decide +kernel
theorem dX4_alike_12 : decode cX4_alike 12 = .ok (.invokevirtual 115, 3) := by decide +kernel
theorem dX4_alike_15 : decode cX4_alike 15 = .ok (.iconst 0, 1) := by decide +kernel
theorem dX4_alike_16 : decode cX4_alike 16 = .ok (.istore_n 2, 1) := by decide +kernel
theorem dX4_alike_17 : decode cX4_alike 17 = .ok (.iload_n 2, 1) := by decide +kernel
theorem dX4_alike_18 : decode cX4_alike 18 = .ok (.bipush 40, 2) := by decide +kernel
theorem dX4_alike_20 : decode cX4_alike 20 = .ok (.if_icmp .ge 36, 3) := by decide +kernel
theorem dX4_alike_23 : decode cX4_alike 23 = .ok (.aload_n 0, 1) := by decide +kernel
theorem dX4_alike_24 : decode cX4_alike 24 = .ok (.getfield 22, 3) := by decide +kernel
theorem dX4_alike_27 : decode cX4_alike 27 = .ok (.iconst 1, 1) := by decide +kernel
theorem dX4_alike_28 : decode cX4_alike 28 = .ok (.iconst 2, 1) := by decide +kernel
theorem dX4_alike_29 : decode cX4_alike 29 = .ok (.iload_n 1, 1) := by decide +kernel
theorem dX4_alike_30 : decode cX4_alike 30 = .ok (.imul, 1) := by decide +kernel
theorem dX4_alike_31 : decode cX4_alike 31 = .ok (.iadd, 1) := by decide +kernel
theorem dX4_alike_32 : decode cX4_alike 32 = .ok (.iaload, 1) := by decide +kernel
theorem dX4_alike_33 : decode cX4_alike 33 = .ok (.aload_n 0, 1) := by decide +kernel
theorem dX4_alike_34 : decode cX4_alike 34 = .ok (.getfield 22, 3) := by decide +kernel
theorem dX4_alike_37 : decode cX4_alike 37 = .ok (.iconst 2, 1) := by decide +kernel
theorem dX4_alike_38 : decode cX4_alike 38 = .ok (.iconst 2, 1) := by decide +kernel
theorem dX4_alike_39 : decode cX4_alike 39 = .ok (.iload_n 1, 1) := by decide +kernel
theorem dX4_alike_40 : decode cX4_alike 40 = .ok (.imul, 1) := by decide +kernel
theorem dX4_alike_41 : decode cX4_alike 41 = .ok (.iadd, 1) := by decide +kernel
theorem dX4_alike_42 : decode cX4_alike 42 = .ok (.iaload, 1) := by decide +kernel
theorem dX4_alike_43 : decode cX4_alike 43 = .ok (.if_icmp .eq 13, 3) := by decide +kernel
theorem dX4_alike_46 : decode cX4_alike 46 = .ok (.aload_n 0, 1) := by decide +kernel
theorem dX4_alike_47 : decode cX4_alike 47 = .ok (.invokevirtual 112, 3) := by decide +kernel
theorem dX4_alike_50 : decode cX4_alike 50 = .ok (.iinc 2 1, 3) := by decide +kernel
theorem dX4_alike_53 : decode cX4_alike 53 = .ok (.goto (-36), 3) := by decide +kernel
theorem dX4_alike_56 : decode cX4_alike 56 = .ok (.aload_n 0, 1) := by decide +kernel
theorem dX4_alike_57 : decode cX4_alike 57 = .ok (.getfield 22, 3) := by decide +kernel
theorem dX4_alike_60 : decode cX4_alike 60 = .ok (.iconst 1, 1) := by decide +kernel
theorem dX4_alike_61 : decode cX4_alike 61 = .ok (.iconst 2, 1) := by decide +kernel
theorem dX4_alike_62 : decode cX4_alike 62 = .ok (.iload_n 1, 1) := by decide +kernel
theorem dX4_alike_63 : decode cX4_alike 63 = .ok (.imul, 1) := by decide +kernel
theorem dX4_alike_64 : decode cX4_alike 64 = .ok (.iadd, 1) := by decide +kernel
theorem dX4_alike_65 : decode cX4_alike 65 = .ok (.iaload, 1) := by decide +kernel
theorem dX4_alike_66 : decode cX4_alike 66 = .ok (.aload_n 0, 1) := by decide +kernel
theorem dX4_alike_67 : decode cX4_alike 67 = .ok (.getfield 22, 3) := by decide +kernel
theorem dX4_alike_70 : decode cX4_alike 70 = .ok (.iconst 2, 1) := by decide +kernel
theorem dX4_alike_71 : decode cX4_alike 71 = .ok (.iconst 2, 1) := by decide +kernel
theorem dX4_alike_72 : decode cX4_alike 72 = .ok (.iload_n 1, 1) := by decide +kernel
theorem dX4_alike_73 : decode cX4_alike 73 = .ok (.imul, 1) := by decide +kernel
theorem dX4_alike_74 : decode cX4_alike 74 = .ok (.iadd, 1) := by decide +kernel
theorem dX4_alike_75 : decode cX4_alike 75 = .ok (.iaload, 1) := by decide +kernel
theorem dX4_alike_76 : decode cX4_alike 76 = .ok (.if_icmp .ne 7, 3) := by decide +kernel
theorem dX4_alike_79 : decode cX4_alike 79 = .ok (.iload_n 2, 1) := by decide +kernel
theorem dX4_alike_80 : decode cX4_alike 80 = .ok (.goto 5, 3) := by decide +kernel
theorem dX4_alike_83 : decode cX4_alike 83 = .ok (.bipush (-4), 2) := by decide +kernel
theorem dX4_alike_85 : decode cX4_alike 85 = .ok (.ireturn, 1) := by decide +kernel
theorem dX4_holds_0 : decode cX4_holds 0 = .ok (.aload_n 0, 1) := by decide +kernel
theorem dX4_holds_1 : decode cX4_holds 1 = .ok (.getfield 13, 3) := by decide +kernel
theorem dX4_holds_4 : decode cX4_holds 4 = .ok (.iconst 5, 1) := by decide +kernel
theorem dX4_holds_5 : decode cX4_holds 5 = .ok (.iaload, 1) := by decide +kernel
theorem dX4_holds_6 : decode cX4_holds 6 = .ok (.iload_n 1, 1) := by decide +kernel
theorem dX4_holds_7 : decode cX4_holds 7 = .ok (.isub, 1) := by decide +kernel
theorem dX4_holds_8 : decode cX4_holds 8 = .ok (.iload_n 2, 1) := by decide +kernel
theorem dX4_holds_9 : decode cX4_holds 9 = .ok (.isub, 1) := by decide +kernel
theorem dX4_holds_10 : decode cX4_holds 10 = .ok (.istore 4, 2) := by decide +kernel
theorem dX4_holds_12 : decode cX4_holds 12 = .ok (.iload 4, 2) := by decide +kernel
theorem dX4_holds_14 : decode cX4_holds 14 = .ok (.ifCond .ge 7, 3) := by decide +kernel
theorem dX4_holds_17 : decode cX4_holds 17 = .ok (.iconst 0, 1) := by decide +kernel
theorem dX4_holds_18 : decode cX4_holds 18 = .ok (.goto 33, 3) := by decide +kernel
theorem dX4_holds_21 : decode cX4_holds 21 = .ok (.iload_n 3, 1) := by decide +kernel
theorem dX4_holds_22 : decode cX4_holds 22 = .ok (.ifCond .ne 15, 3) := by decide +kernel
theorem dX4_holds_25 : decode cX4_holds 25 = .ok (.iload_n 1, 1) := by decide +kernel
theorem dX4_holds_26 : decode cX4_holds 26 = .ok (.aload_n 0, 1) := by decide +kernel
theorem dX4_holds_27 : decode cX4_holds 27 = .ok (.getfield 13, 3) := by decide +kernel
theorem dX4_holds_30 : decode cX4_holds 30 = .ok (.bipush 6, 2) := by decide +kernel
theorem dX4_holds_32 : decode cX4_holds 32 = .ok (.iaload, 1) := by decide +kernel
theorem dX4_holds_33 : decode cX4_holds 33 = .ok (.imul, 1) := by decide +kernel
theorem dX4_holds_34 : decode cX4_holds 34 = .ok (.goto 12, 3) := by decide +kernel
theorem dX4_holds_37 : decode cX4_holds 37 = .ok (.iload_n 2, 1) := by decide +kernel
theorem dX4_holds_38 : decode cX4_holds 38 = .ok (.aload_n 0, 1) := by decide +kernel
theorem dX4_holds_39 : decode cX4_holds 39 = .ok (.getfield 13, 3) := by decide +kernel
theorem dX4_holds_42 : decode cX4_holds 42 = .ok (.bipush 7, 2) := by decide +kernel
theorem dX4_holds_44 : decode cX4_holds 44 = .ok (.iaload, 1) := by decide +kernel
theorem dX4_holds_45 : decode cX4_holds 45 = .ok (.imul, 1) := by decide +kernel
theorem dX4_holds_46 : decode cX4_holds 46 = .ok (.iload 4, 2) := by decide +kernel
theorem dX4_holds_48 : decode cX4_holds 48 = .ok (.iconst 2, 1) := by decide +kernel
theorem dX4_holds_49 : decode cX4_holds 49 = .ok (.idiv, 1) := by decide +kernel
theorem dX4_holds_50 : decode cX4_holds 50 = .ok (.iadd, 1) := by decide +kernel
theorem dX4_holds_51 : decode cX4_holds 51 = .ok (.ireturn, 1) := by decide +kernel
theorem dX4_purse_0 : decode cX4_purse 0 = .ok (.iload_n 1, 1) := by decide +kernel
theorem dX4_purse_1 : decode cX4_purse 1 = .ok (.iconst 0, 1) := by decide +kernel
theorem dX4_purse_2 : decode cX4_purse 2 = .ok (.bipush 9, 2) := by decide +kernel
theorem dX4_purse_4 : decode cX4_purse 4 = .ok (.invokestatic 40, 3) := by decide +kernel
theorem dX4_purse_7 : decode cX4_purse 7 = .ok (.ifCond .eq 32, 3) := by decide +kernel
theorem dX4_purse_10 : decode cX4_purse 10 = .ok (.iload_n 2, 1) := by decide +kernel
theorem dX4_purse_11 : decode cX4_purse 11 = .ok (.iconst 0, 1) := by decide +kernel
theorem dX4_purse_12 : decode cX4_purse 12 = .ok (.bipush 9, 2) := by decide +kernel
theorem dX4_purse_14 : decode cX4_purse 14 = .ok (.invokestatic 40, 3) := by decide +kernel
theorem dX4_purse_17 : decode cX4_purse 17 = .ok (.ifCond .eq 22, 3) := by decide +kernel
theorem dX4_purse_20 : decode cX4_purse 20 = .ok (.iload_n 3, 1) := by decide +kernel
theorem dX4_purse_21 : decode cX4_purse 21 = .ok (.iconst 0, 1) := by decide +kernel
theorem dX4_purse_22 : decode cX4_purse 22 = .ok (.iconst 1, 1) := by decide +kernel
theorem dX4_purse_23 : decode cX4_purse 23 = .ok (.invokestatic 40, 3) := by decide +kernel
theorem dX4_purse_26 : decode cX4_purse 26 = .ok (.ifCond .eq 13, 3) := by decide +kernel
theorem dX4_purse_29 : decode cX4_purse 29 = .ok (.aload_n 0, 1) := by decide +kernel
theorem dX4_purse_30 : decode cX4_purse 30 = .ok (.iload_n 1, 1) := by decide +kernel
theorem dX4_purse_31 : decode cX4_purse 31 = .ok (.iload_n 2, 1) := by decide +kernel
theorem dX4_purse_32 : decode cX4_purse 32 = .ok (.iload_n 3, 1) := by decide +kernel
theorem dX4_purse_33 : decode cX4_purse 33 = .ok (.invokevirtual 132, 3) := by decide +kernel
theorem dX4_purse_36 : decode cX4_purse 36 = .ok (.goto 4, 3) := by decide +kernel
theorem dX4_purse_39 : decode cX4_purse 39 = .ok (.iconst (-1), 1) := by decide +kernel
theorem dX4_purse_40 : decode cX4_purse 40 = .ok (.ireturn, 1) := by decide +kernel
theorem dX4_rest_0 : decode cX4_rest 0 = .ok (.iconst 1, 1) := by decide +kernel
theorem dX4_rest_1 : decode cX4_rest 1 = .ok (.istore_n 3, 1) := by decide +kernel
theorem dX4_rest_2 : decode cX4_rest 2 = .ok (.iconst 0, 1) := by decide +kernel
theorem dX4_rest_3 : decode cX4_rest 3 = .ok (.istore 4, 2) := by decide +kernel
theorem dX4_rest_5 : decode cX4_rest 5 = .ok (.iload 4, 2) := by decide +kernel
theorem dX4_rest_7 : decode cX4_rest 7 = .ok (.bipush 10, 2) := by decide +kernel
theorem dX4_rest_9 : decode cX4_rest 9 = .ok (.if_icmp .ge 55, 3) := by decide +kernel
theorem dX4_rest_12 : decode cX4_rest 12 = .ok (.iload_n 3, 1) := by decide +kernel
theorem dX4_rest_13 : decode cX4_rest 13 = .ok (.ifCond .eq 43, 3) := by decide +kernel
theorem dX4_rest_16 : decode cX4_rest 16 = .ok (.aload_n 0, 1) := by decide +kernel
theorem dX4_rest_17 : decode cX4_rest 17 = .ok (.iload 4, 2) := by decide +kernel
theorem dX4_rest_19 : decode cX4_rest 19 = .ok (.iload_n 2, 1) := by decide +kernel
theorem dX4_rest_20 : decode cX4_rest 20 = .ok (.iconst 0, 1) := by decide +kernel
theorem dX4_rest_21 : decode cX4_rest 21 = .ok (.invokevirtual 132, 3) := by decide +kernel
theorem dX4_rest_24 : decode cX4_rest 24 = .ok (.aload_n 0, 1) := by decide +kernel
theorem dX4_rest_25 : decode cX4_rest 25 = .ok (.iload_n 1, 1) := by decide +kernel
theorem dX4_rest_26 : decode cX4_rest 26 = .ok (.iload_n 2, 1) := by decide +kernel
theorem dX4_rest_27 : decode cX4_rest 27 = .ok (.iconst 0, 1) := by decide +kernel
theorem dX4_rest_28 : decode cX4_rest 28 = .ok (.invokevirtual 132, 3) := by decide +kernel
theorem dX4_rest_31 : decode cX4_rest 31 = .ok (.if_icmp .gt 25, 3) := by decide +kernel
theorem dX4_rest_34 : decode cX4_rest 34 = .ok (.aload_n 0, 1) := by decide +kernel
theorem dX4_rest_35 : decode cX4_rest 35 = .ok (.iload_n 1, 1) := by decide +kernel
theorem dX4_rest_36 : decode cX4_rest 36 = .ok (.iload 4, 2) := by decide +kernel
theorem dX4_rest_38 : decode cX4_rest 38 = .ok (.iconst 1, 1) := by decide +kernel
theorem dX4_rest_39 : decode cX4_rest 39 = .ok (.invokevirtual 132, 3) := by decide +kernel
theorem dX4_rest_42 : decode cX4_rest 42 = .ok (.aload_n 0, 1) := by decide +kernel
theorem dX4_rest_43 : decode cX4_rest 43 = .ok (.iload_n 1, 1) := by decide +kernel
theorem dX4_rest_44 : decode cX4_rest 44 = .ok (.iload_n 2, 1) := by decide +kernel
theorem dX4_rest_45 : decode cX4_rest 45 = .ok (.iconst 1, 1) := by decide +kernel
theorem dX4_rest_46 : decode cX4_rest 46 = .ok (.invokevirtual 132, 3) := by decide +kernel
theorem dX4_rest_49 : decode cX4_rest 49 = .ok (.if_icmp .gt 7, 3) := by decide +kernel
theorem dX4_rest_52 : decode cX4_rest 52 = .ok (.iconst 1, 1) := by decide +kernel
theorem dX4_rest_53 : decode cX4_rest 53 = .ok (.goto 4, 3) := by decide +kernel
theorem dX4_rest_56 : decode cX4_rest 56 = .ok (.iconst 0, 1) := by decide +kernel
theorem dX4_rest_57 : decode cX4_rest 57 = .ok (.istore_n 3, 1) := by decide +kernel
theorem dX4_rest_58 : decode cX4_rest 58 = .ok (.iinc 4 1, 3) := by decide +kernel
theorem dX4_rest_61 : decode cX4_rest 61 = .ok (.goto (-56), 3) := by decide +kernel
theorem dX4_rest_64 : decode cX4_rest 64 = .ok (.iload_n 3, 1) := by decide +kernel
theorem dX4_rest_65 : decode cX4_rest 65 = .ok (.ireturn, 1) := by decide +kernel
theorem dX4_rests_0 : decode cX4_rests 0 = .ok (.iload_n 1, 1) := by decide +kernel
theorem dX4_rests_1 : decode cX4_rests 1 = .ok (.iconst 0, 1) := by decide +kernel
theorem dX4_rests_2 : decode cX4_rests 2 = .ok (.iconst 2, 1) := by decide +kernel
theorem dX4_rests_3 : decode cX4_rests 3 = .ok (.invokestatic 40, 3) := by decide +kernel
theorem dX4_rests_6 : decode cX4_rests 6 = .ok (.ifCond .ne 5, 3) := by decide +kernel
theorem dX4_rests_9 : decode cX4_rests 9 = .ok (.iconst (-1), 1) := by decide +kernel
theorem dX4_rests_10 : decode cX4_rests 10 = .ok (.ireturn, 1) := by decide +kernel
theorem dX4_rests_11 : decode cX4_rests 11 = .ok (.iconst 0, 1) := by decide +kernel
theorem dX4_rests_12 : decode cX4_rests 12 = .ok (.istore_n 2, 1) := by decide +kernel
theorem dX4_rests_13 : decode cX4_rests 13 = .ok (.bipush (-4), 2) := by decide +kernel
theorem dX4_rests_15 : decode cX4_rests 15 = .ok (.istore_n 3, 1) := by decide +kernel
theorem dX4_rests_16 : decode cX4_rests 16 = .ok (.bipush 99, 2) := by decide +kernel
theorem dX4_rests_18 : decode cX4_rests 18 = .ok (.istore 4, 2) := by decide +kernel
theorem dX4_rests_20 : decode cX4_rests 20 = .ok (.iload 4, 2) := by decide +kernel
theorem dX4_rests_22 : decode cX4_rests 22 = .ok (.ifCond .lt 32, 3) := by decide +kernel
theorem dX4_rests_25 : decode cX4_rests 25 = .ok (.aload_n 0, 1) := by decide +kernel
theorem dX4_rests_26 : decode cX4_rests 26 = .ok (.iload 4, 2) := by decide +kernel
theorem dX4_rests_28 : decode cX4_rests 28 = .ok (.bipush 10, 2) := by decide +kernel
theorem dX4_rests_30 : decode cX4_rests 30 = .ok (.idiv, 1) := by decide +kernel
theorem dX4_rests_31 : decode cX4_rests 31 = .ok (.iload 4, 2) := by decide +kernel
theorem dX4_rests_33 : decode cX4_rests 33 = .ok (.bipush 10, 2) := by decide +kernel
theorem dX4_rests_35 : decode cX4_rests 35 = .ok (.irem, 1) := by decide +kernel
theorem dX4_rests_36 : decode cX4_rests 36 = .ok (.invokevirtual 136, 3) := by decide +kernel
theorem dX4_rests_39 : decode cX4_rests 39 = .ok (.ifCond .eq 9, 3) := by decide +kernel
theorem dX4_rests_42 : decode cX4_rests 42 = .ok (.iinc 2 1, 3) := by decide +kernel
theorem dX4_rests_45 : decode cX4_rests 45 = .ok (.iload 4, 2) := by decide +kernel
theorem dX4_rests_47 : decode cX4_rests 47 = .ok (.istore_n 3, 1) := by decide +kernel
theorem dX4_rests_48 : decode cX4_rests 48 = .ok (.iinc 4 (-1), 3) := by decide +kernel
theorem dX4_rests_51 : decode cX4_rests 51 = .ok (.goto (-31), 3) := by decide +kernel
theorem dX4_rests_54 : decode cX4_rests 54 = .ok (.iload_n 1, 1) := by decide +kernel
theorem dX4_rests_55 : decode cX4_rests 55 = .ok (.ifCond .ne 7, 3) := by decide +kernel
theorem dX4_rests_58 : decode cX4_rests 58 = .ok (.iload_n 2, 1) := by decide +kernel
theorem dX4_rests_59 : decode cX4_rests 59 = .ok (.goto 30, 3) := by decide +kernel
theorem dX4_rests_62 : decode cX4_rests 62 = .ok (.iload_n 3, 1) := by decide +kernel
theorem dX4_rests_63 : decode cX4_rests 63 = .ok (.bipush (-4), 2) := by decide +kernel
theorem dX4_rests_65 : decode cX4_rests 65 = .ok (.if_icmp .ne 8, 3) := by decide +kernel
theorem dX4_rests_68 : decode cX4_rests 68 = .ok (.bipush (-4), 2) := by decide +kernel
theorem dX4_rests_70 : decode cX4_rests 70 = .ok (.goto 19, 3) := by decide +kernel
theorem dX4_rests_73 : decode cX4_rests 73 = .ok (.iload_n 1, 1) := by decide +kernel
theorem dX4_rests_74 : decode cX4_rests 74 = .ok (.iconst 1, 1) := by decide +kernel
theorem dX4_rests_75 : decode cX4_rests 75 = .ok (.if_icmp .ne 10, 3) := by decide +kernel
theorem dX4_rests_78 : decode cX4_rests 78 = .ok (.iload_n 3, 1) := by decide +kernel
theorem dX4_rests_79 : decode cX4_rests 79 = .ok (.bipush 10, 2) := by decide +kernel
theorem dX4_rests_81 : decode cX4_rests 81 = .ok (.idiv, 1) := by decide +kernel
theorem dX4_rests_82 : decode cX4_rests 82 = .ok (.goto 7, 3) := by decide +kernel
theorem dX4_rests_85 : decode cX4_rests 85 = .ok (.iload_n 3, 1) := by decide +kernel
theorem dX4_rests_86 : decode cX4_rests 86 = .ok (.bipush 10, 2) := by decide +kernel
theorem dX4_rests_88 : decode cX4_rests 88 = .ok (.irem, 1) := by decide +kernel
theorem dX4_rests_89 : decode cX4_rests 89 = .ok (.ireturn, 1) := by decide +kernel
theorem dX4_camp_0 : decode cX4_camp 0 = .ok (.iload_n 0, 1) := by decide +kernel
theorem dX4_camp_1 : decode cX4_camp 1 = .ok (.iload_n 1, 1) := by decide +kernel
theorem dX4_camp_2 : decode cX4_camp 2 = .ok (.iconst 2, 1) := by decide +kernel
theorem dX4_camp_3 : decode cX4_camp 3 = .ok (.idiv, 1) := by decide +kernel
theorem dX4_camp_4 : decode cX4_camp 4 = .ok (.ishr, 1) := by decide +kernel
theorem dX4_camp_5 : decode cX4_camp 5 = .ok (.iconst 1, 1) := by decide +kernel
theorem dX4_camp_6 : decode cX4_camp 6 = .ok (.iand, 1) := by decide +kernel
theorem dX4_camp_7 : decode cX4_camp 7 = .ok (.iload_n 1, 1) := by decide +kernel
theorem dX4_camp_8 : decode cX4_camp 8 = .ok (.iconst 2, 1) := by decide +kernel
theorem dX4_camp_9 : decode cX4_camp 9 = .ok (.irem, 1) := by decide +kernel
theorem dX4_camp_10 : decode cX4_camp 10 = .ok (.ixor, 1) := by decide +kernel
theorem dX4_camp_11 : decode cX4_camp 11 = .ok (.ireturn, 1) := by decide +kernel
theorem dX4_parts_0 : decode cX4_parts 0 = .ok (.iconst 0, 1) := by decide +kernel
theorem dX4_parts_1 : decode cX4_parts 1 = .ok (.istore_n 2, 1) := by decide +kernel
theorem dX4_parts_2 : decode cX4_parts 2 = .ok (.iconst 0, 1) := by decide +kernel
theorem dX4_parts_3 : decode cX4_parts 3 = .ok (.istore_n 3, 1) := by decide +kernel
theorem dX4_parts_4 : decode cX4_parts 4 = .ok (.iload_n 3, 1) := by decide +kernel
theorem dX4_parts_5 : decode cX4_parts 5 = .ok (.aload_n 0, 1) := by decide +kernel
theorem dX4_parts_6 : decode cX4_parts 6 = .ok (.getfield 13, 3) := by decide +kernel
theorem dX4_parts_9 : decode cX4_parts 9 = .ok (.iconst 2, 1) := by decide +kernel
theorem dX4_parts_10 : decode cX4_parts 10 = .ok (.iaload, 1) := by decide +kernel
theorem dX4_parts_11 : decode cX4_parts 11 = .ok (.if_icmp .ge 52, 3) := by decide +kernel
theorem dX4_parts_14 : decode cX4_parts 14 = .ok (.iload_n 2, 1) := by decide +kernel
theorem dX4_parts_15 : decode cX4_parts 15 = .ok (.iload_n 1, 1) := by decide +kernel
theorem dX4_parts_16 : decode cX4_parts 16 = .ok (.aload_n 0, 1) := by decide +kernel
theorem dX4_parts_17 : decode cX4_parts 17 = .ok (.getfield 13, 3) := by decide +kernel
theorem dX4_parts_20 : decode cX4_parts 20 = .ok (.bipush 64, 2) := by decide +kernel
theorem dX4_parts_22 : decode cX4_parts 22 = .ok (.iconst 2, 1) := by decide +kernel
theorem dX4_parts_23 : decode cX4_parts 23 = .ok (.iload_n 3, 1) := by decide +kernel
theorem dX4_parts_24 : decode cX4_parts 24 = .ok (.imul, 1) := by decide +kernel
theorem dX4_parts_25 : decode cX4_parts 25 = .ok (.iadd, 1) := by decide +kernel
theorem dX4_parts_26 : decode cX4_parts 26 = .ok (.iaload, 1) := by decide +kernel
theorem dX4_parts_27 : decode cX4_parts 27 = .ok (.invokestatic 140, 3) := by decide +kernel
theorem dX4_parts_30 : decode cX4_parts 30 = .ok (.iload_n 1, 1) := by decide +kernel
theorem dX4_parts_31 : decode cX4_parts 31 = .ok (.aload_n 0, 1) := by decide +kernel
theorem dX4_parts_32 : decode cX4_parts 32 = .ok (.getfield 13, 3) := by decide +kernel
theorem dX4_parts_35 : decode cX4_parts 35 = .ok (.bipush 64, 2) := by decide +kernel
theorem dX4_parts_37 : decode cX4_parts 37 = .ok (.iconst 2, 1) := by decide +kernel
theorem dX4_parts_38 : decode cX4_parts 38 = .ok (.iload_n 3, 1) := by decide +kernel
theorem dX4_parts_39 : decode cX4_parts 39 = .ok (.imul, 1) := by decide +kernel
theorem dX4_parts_40 : decode cX4_parts 40 = .ok (.iadd, 1) := by decide +kernel
theorem dX4_parts_41 : decode cX4_parts 41 = .ok (.iconst 1, 1) := by decide +kernel
theorem dX4_parts_42 : decode cX4_parts 42 = .ok (.iadd, 1) := by decide +kernel
theorem dX4_parts_43 : decode cX4_parts 43 = .ok (.iaload, 1) := by decide +kernel
theorem dX4_parts_44 : decode cX4_parts 44 = .ok (.invokestatic 140, 3) := by decide +kernel
theorem dX4_parts_47 : decode cX4_parts 47 = .ok (.if_icmp .eq 7, 3) := by decide +kernel
theorem dX4_parts_50 : decode cX4_parts 50 = .ok (.iconst 1, 1) := by decide +kernel
theorem dX4_parts_51 : decode cX4_parts 51 = .ok (.goto 4, 3) := by decide +kernel
theorem dX4_parts_54 : decode cX4_parts 54 = .ok (.iconst 0, 1) := by decide +kernel
theorem dX4_parts_55 : decode cX4_parts 55 = .ok (.iadd, 1) := by decide +kernel
theorem dX4_parts_56 : decode cX4_parts 56 = .ok (.istore_n 2, 1) := by decide +kernel
theorem dX4_parts_57 : decode cX4_parts 57 = .ok (.iinc 3 1, 3) := by decide +kernel
theorem dX4_parts_60 : decode cX4_parts 60 = .ok (.goto (-56), 3) := by decide +kernel
theorem dX4_parts_63 : decode cX4_parts 63 = .ok (.iload_n 2, 1) := by decide +kernel
theorem dX4_parts_64 : decode cX4_parts 64 = .ok (.ireturn, 1) := by decide +kernel
theorem dX4_camps_0 : decode cX4_camps 0 = .ok (.iload_n 1, 1) := by decide +kernel
theorem dX4_camps_1 : decode cX4_camps 1 = .ok (.iconst 0, 1) := by decide +kernel
theorem dX4_camps_2 : decode cX4_camps 2 = .ok (.iconst 1, 1) := by decide +kernel
theorem dX4_camps_3 : decode cX4_camps 3 = .ok (.invokestatic 40, 3) := by decide +kernel
theorem dX4_camps_6 : decode cX4_camps 6 = .ok (.ifCond .ne 5, 3) := by decide +kernel
theorem dX4_camps_9 : decode cX4_camps 9 = .ok (.iconst (-1), 1) := by decide +kernel
theorem dX4_camps_10 : decode cX4_camps 10 = .ok (.ireturn, 1) := by decide +kernel
theorem dX4_camps_11 : decode cX4_camps 11 = .ok (.iconst 0, 1) := by decide +kernel
theorem dX4_camps_12 : decode cX4_camps 12 = .ok (.istore_n 2, 1) := by decide +kernel
theorem dX4_camps_13 : decode cX4_camps 13 = .ok (.iconst 1, 1) := by decide +kernel
theorem dX4_camps_14 : decode cX4_camps 14 = .ok (.istore_n 3, 1) := by decide +kernel
theorem dX4_camps_15 : decode cX4_camps 15 = .ok (.iload_n 3, 1) := by decide +kernel
theorem dX4_camps_16 : decode cX4_camps 16 = .ok (.iconst 1, 1) := by decide +kernel
theorem dX4_camps_17 : decode cX4_camps 17 = .ok (.aload_n 0, 1) := by decide +kernel
theorem dX4_camps_18 : decode cX4_camps 18 = .ok (.getfield 13, 3) := by decide +kernel
theorem dX4_camps_21 : decode cX4_camps 21 = .ok (.iconst 0, 1) := by decide +kernel
theorem dX4_camps_22 : decode cX4_camps 22 = .ok (.iaload, 1) := by decide +kernel
theorem dX4_camps_23 : decode cX4_camps 23 = .ok (.ishl, 1) := by decide +kernel
theorem dX4_camps_24 : decode cX4_camps 24 = .ok (.if_icmp .ge 28, 3) := by decide +kernel
theorem dX4_camps_27 : decode cX4_camps 27 = .ok (.aload_n 0, 1) := by decide +kernel
theorem dX4_camps_28 : decode cX4_camps 28 = .ok (.iload_n 3, 1) := by decide +kernel
theorem dX4_camps_29 : decode cX4_camps 29 = .ok (.invokevirtual 143, 3) := by decide +kernel
theorem dX4_camps_32 : decode cX4_camps 32 = .ok (.aload_n 0, 1) := by decide +kernel
theorem dX4_camps_33 : decode cX4_camps 33 = .ok (.iload_n 2, 1) := by decide +kernel
theorem dX4_camps_34 : decode cX4_camps 34 = .ok (.invokevirtual 143, 3) := by decide +kernel
theorem dX4_camps_37 : decode cX4_camps 37 = .ok (.if_icmp .ge 7, 3) := by decide +kernel
theorem dX4_camps_40 : decode cX4_camps 40 = .ok (.iload_n 3, 1) := by decide +kernel
theorem dX4_camps_41 : decode cX4_camps 41 = .ok (.goto 4, 3) := by decide +kernel
theorem dX4_camps_44 : decode cX4_camps 44 = .ok (.iload_n 2, 1) := by decide +kernel
theorem dX4_camps_45 : decode cX4_camps 45 = .ok (.istore_n 2, 1) := by decide +kernel
theorem dX4_camps_46 : decode cX4_camps 46 = .ok (.iinc 3 1, 3) := by decide +kernel
theorem dX4_camps_49 : decode cX4_camps 49 = .ok (.goto (-34), 3) := by decide +kernel
theorem dX4_camps_52 : decode cX4_camps 52 = .ok (.iload_n 1, 1) := by decide +kernel
theorem dX4_camps_53 : decode cX4_camps 53 = .ok (.ifCond .ne 11, 3) := by decide +kernel
theorem dX4_camps_56 : decode cX4_camps 56 = .ok (.aload_n 0, 1) := by decide +kernel
theorem dX4_camps_57 : decode cX4_camps 57 = .ok (.iload_n 2, 1) := by decide +kernel
theorem dX4_camps_58 : decode cX4_camps 58 = .ok (.invokevirtual 143, 3) := by decide +kernel
theorem dX4_camps_61 : decode cX4_camps 61 = .ok (.goto 4, 3) := by decide +kernel
theorem dX4_camps_64 : decode cX4_camps 64 = .ok (.iload_n 2, 1) := by decide +kernel
theorem dX4_camps_65 : decode cX4_camps 65 = .ok (.ireturn, 1) := by decide +kernel
theorem dX4_seen_0 : decode cX4_seen 0 = .ok (.iload_n 1, 1) := by decide +kernel
theorem dX4_seen_1 : decode cX4_seen 1 = .ok (.iconst 0, 1) := by decide +kernel
theorem dX4_seen_2 : decode cX4_seen 2 = .ok (.bipush 40, 2) := by decide +kernel
theorem dX4_seen_4 : decode cX4_seen 4 = .ok (.invokestatic 40, 3) := by decide +kernel
theorem dX4_seen_7 : decode cX4_seen 7 = .ok (.ifCond .eq 10, 3) := by decide +kernel
theorem dX4_seen_10 : decode cX4_seen 10 = .ok (.iload_n 2, 1) := by decide +kernel
theorem dX4_seen_11 : decode cX4_seen 11 = .ok (.invokestatic 105, 3) := by decide +kernel
theorem dX4_seen_14 : decode cX4_seen 14 = .ok (.ifCond .ne 5, 3) := by decide +kernel
theorem dX4_seen_17 : decode cX4_seen 17 = .ok (.iconst (-1), 1) := by decide +kernel
theorem dX4_seen_18 : decode cX4_seen 18 = .ok (.ireturn, 1) := by decide +kernel
theorem dX4_seen_19 : decode cX4_seen 19 = .ok (.aload_n 0, 1) := by decide +kernel
theorem dX4_seen_20 : decode cX4_seen 20 = .ok (.getfield 93, 3) := by decide +kernel
theorem dX4_seen_23 : decode cX4_seen 23 = .ok (.bipush 10, 2) := by decide +kernel
theorem dX4_seen_25 : decode cX4_seen 25 = .ok (.if_icmp .ne 6, 3) := by decide +kernel
theorem dX4_seen_28 : decode cX4_seen 28 = .ok (.bipush (-3), 2) := by decide +kernel
theorem dX4_seen_30 : decode cX4_seen 30 = .ok (.ireturn, 1) := by decide +kernel
theorem dX4_seen_31 : decode cX4_seen 31 = .ok (.aload_n 0, 1) := by decide +kernel
theorem dX4_seen_32 : decode cX4_seen 32 = .ok (.getfield 28, 3) := by decide +kernel
theorem dX4_seen_35 : decode cX4_seen 35 = .ok (.aload_n 0, 1) := by decide +kernel
theorem dX4_seen_36 : decode cX4_seen 36 = .ok (.getfield 93, 3) := by decide +kernel
theorem dX4_seen_39 : decode cX4_seen 39 = .ok (.iload_n 1, 1) := by decide +kernel
theorem dX4_seen_40 : decode cX4_seen 40 = .ok (.iastore, 1) := by decide +kernel
theorem dX4_seen_41 : decode cX4_seen 41 = .ok (.aload_n 0, 1) := by decide +kernel
theorem dX4_seen_42 : decode cX4_seen 42 = .ok (.getfield 31, 3) := by decide +kernel
theorem dX4_seen_45 : decode cX4_seen 45 = .ok (.aload_n 0, 1) := by decide +kernel
theorem dX4_seen_46 : decode cX4_seen 46 = .ok (.getfield 93, 3) := by decide +kernel
theorem dX4_seen_49 : decode cX4_seen 49 = .ok (.iload_n 2, 1) := by decide +kernel
theorem dX4_seen_50 : decode cX4_seen 50 = .ok (.iastore, 1) := by decide +kernel
theorem dX4_seen_51 : decode cX4_seen 51 = .ok (.aload_n 0, 1) := by decide +kernel
theorem dX4_seen_52 : decode cX4_seen 52 = .ok (.dup, 1) := by decide +kernel
theorem dX4_seen_53 : decode cX4_seen 53 = .ok (.getfield 93, 3) := by decide +kernel
theorem dX4_seen_56 : decode cX4_seen 56 = .ok (.iconst 1, 1) := by decide +kernel
theorem dX4_seen_57 : decode cX4_seen 57 = .ok (.iadd, 1) := by decide +kernel
theorem dX4_seen_58 : decode cX4_seen 58 = .ok (.putfield 93, 3) := by decide +kernel
theorem dX4_seen_61 : decode cX4_seen 61 = .ok (.aload_n 0, 1) := by decide +kernel
theorem dX4_seen_62 : decode cX4_seen 62 = .ok (.getfield 93, 3) := by decide +kernel
theorem dX4_seen_65 : decode cX4_seen 65 = .ok (.ireturn, 1) := by decide +kernel
theorem dX4_forget_0 : decode cX4_forget 0 = .ok (.aload_n 0, 1) := by decide +kernel
theorem dX4_forget_1 : decode cX4_forget 1 = .ok (.getfield 93, 3) := by decide +kernel
theorem dX4_forget_4 : decode cX4_forget 4 = .ok (.istore_n 1, 1) := by decide +kernel
theorem dX4_forget_5 : decode cX4_forget 5 = .ok (.aload_n 0, 1) := by decide +kernel
theorem dX4_forget_6 : decode cX4_forget 6 = .ok (.iconst 0, 1) := by decide +kernel
theorem dX4_forget_7 : decode cX4_forget 7 = .ok (.putfield 93, 3) := by decide +kernel
theorem dX4_forget_10 : decode cX4_forget 10 = .ok (.iload_n 1, 1) := by decide +kernel
theorem dX4_forget_11 : decode cX4_forget 11 = .ok (.ireturn, 1) := by decide +kernel
theorem dX4_finds_0 : decode cX4_finds 0 = .ok (.iconst 0, 1) := by decide +kernel
theorem dX4_finds_1 : decode cX4_finds 1 = .ok (.istore_n 1, 1) := by decide +kernel
theorem dX4_finds_2 : decode cX4_finds 2 = .ok (.iload_n 1, 1) := by decide +kernel
theorem dX4_finds_3 : decode cX4_finds 3 = .ok (.aload_n 0, 1) := by decide +kernel
theorem dX4_finds_4 : decode cX4_finds 4 = .ok (.getfield 93, 3) := by decide +kernel
theorem dX4_finds_7 : decode cX4_finds 7 = .ok (.if_icmp .ge 92, 3) := by decide +kernel
theorem dX4_finds_10 : decode cX4_finds 10 = .ok (.iconst 0, 1) := by decide +kernel
theorem dX4_finds_11 : decode cX4_finds 11 = .ok (.istore_n 2, 1) := by decide +kernel
theorem dX4_finds_12 : decode cX4_finds 12 = .ok (.iload_n 2, 1) := by decide +kernel
theorem dX4_finds_13 : decode cX4_finds 13 = .ok (.bipush 16, 2) := by decide +kernel
theorem dX4_finds_15 : decode cX4_finds 15 = .ok (.if_icmp .ge 40, 3) := by decide +kernel
theorem dX4_finds_18 : decode cX4_finds 18 = .ok (.aload_n 0, 1) := by decide +kernel
theorem dX4_finds_19 : decode cX4_finds 19 = .ok (.getfield 22, 3) := by decide +kernel
theorem dX4_finds_22 : decode cX4_finds 22 = .ok (.iload_n 2, 1) := by decide +kernel
theorem dX4_finds_23 : decode cX4_finds 23 = .ok (.iload_n 2, 1) := by decide +kernel
theorem dX4_finds_24 : decode cX4_finds 24 = .ok (.iconst 1, 1) := by decide +kernel
theorem dX4_finds_25 : decode cX4_finds 25 = .ok (.bipush 10, 2) := by decide +kernel
theorem dX4_finds_27 : decode cX4_finds 27 = .ok (.invokestatic 40, 3) := by decide +kernel
theorem dX4_finds_30 : decode cX4_finds 30 = .ok (.ifCond .eq 17, 3) := by decide +kernel
theorem dX4_finds_33 : decode cX4_finds 33 = .ok (.aload_n 0, 1) := by decide +kernel
theorem dX4_finds_34 : decode cX4_finds 34 = .ok (.getfield 13, 3) := by decide +kernel
theorem dX4_finds_37 : decode cX4_finds 37 = .ok (.bipush 18, 2) := by decide +kernel
theorem dX4_finds_39 : decode cX4_finds 39 = .ok (.iload_n 2, 1) := by decide +kernel
theorem dX4_finds_40 : decode cX4_finds 40 = .ok (.iadd, 1) := by decide +kernel
theorem dX4_finds_41 : decode cX4_finds 41 = .ok (.iconst 1, 1) := by decide +kernel
theorem dX4_finds_42 : decode cX4_finds 42 = .ok (.isub, 1) := by decide +kernel
theorem dX4_finds_43 : decode cX4_finds 43 = .ok (.iaload, 1) := by decide +kernel
theorem dX4_finds_44 : decode cX4_finds 44 = .ok (.goto 4, 3) := by decide +kernel
theorem dX4_finds_47 : decode cX4_finds 47 = .ok (.iconst 0, 1) := by decide +kernel
theorem dX4_finds_48 : decode cX4_finds 48 = .ok (.iastore, 1) := by decide +kernel
theorem dX4_finds_49 : decode cX4_finds 49 = .ok (.iinc 2 1, 3) := by decide +kernel
theorem dX4_finds_52 : decode cX4_finds 52 = .ok (.goto (-40), 3) := by decide +kernel
theorem dX4_finds_55 : decode cX4_finds 55 = .ok (.iconst 0, 1) := by decide +kernel
theorem dX4_finds_56 : decode cX4_finds 56 = .ok (.istore_n 2, 1) := by decide +kernel
theorem dX4_finds_57 : decode cX4_finds 57 = .ok (.iload_n 2, 1) := by decide +kernel
theorem dX4_finds_58 : decode cX4_finds 58 = .ok (.aload_n 0, 1) := by decide +kernel
theorem dX4_finds_59 : decode cX4_finds 59 = .ok (.getfield 28, 3) := by decide +kernel
theorem dX4_finds_62 : decode cX4_finds 62 = .ok (.iload_n 1, 1) := by decide +kernel
theorem dX4_finds_63 : decode cX4_finds 63 = .ok (.iaload, 1) := by decide +kernel
theorem dX4_finds_64 : decode cX4_finds 64 = .ok (.if_icmp .ge 13, 3) := by decide +kernel
theorem dX4_finds_67 : decode cX4_finds 67 = .ok (.aload_n 0, 1) := by decide +kernel
theorem dX4_finds_68 : decode cX4_finds 68 = .ok (.invokevirtual 112, 3) := by decide +kernel
theorem dX4_finds_71 : decode cX4_finds 71 = .ok (.iinc 2 1, 3) := by decide +kernel
theorem dX4_finds_74 : decode cX4_finds 74 = .ok (.goto (-17), 3) := by decide +kernel
theorem dX4_finds_77 : decode cX4_finds 77 = .ok (.aload_n 0, 1) := by decide +kernel
theorem dX4_finds_78 : decode cX4_finds 78 = .ok (.getfield 34, 3) := by decide +kernel
theorem dX4_finds_81 : decode cX4_finds 81 = .ok (.iload_n 1, 1) := by decide +kernel
theorem dX4_finds_82 : decode cX4_finds 82 = .ok (.aload_n 0, 1) := by decide +kernel
theorem dX4_finds_83 : decode cX4_finds 83 = .ok (.aload_n 0, 1) := by decide +kernel
theorem dX4_finds_84 : decode cX4_finds 84 = .ok (.getfield 31, 3) := by decide +kernel
theorem dX4_finds_87 : decode cX4_finds 87 = .ok (.iload_n 1, 1) := by decide +kernel
theorem dX4_finds_88 : decode cX4_finds 88 = .ok (.iaload, 1) := by decide +kernel
theorem dX4_finds_89 : decode cX4_finds 89 = .ok (.invokevirtual 129, 3) := by decide +kernel
theorem dX4_finds_92 : decode cX4_finds 92 = .ok (.iastore, 1) := by decide +kernel
theorem dX4_finds_93 : decode cX4_finds 93 = .ok (.iinc 1 1, 3) := by decide +kernel
theorem dX4_finds_96 : decode cX4_finds 96 = .ok (.goto (-94), 3) := by decide +kernel
theorem dX4_finds_99 : decode cX4_finds 99 = .ok (.return_, 1) := by decide +kernel
theorem dX4_fits_0 : decode cX4_fits 0 = .ok (.aload_n 0, 1) := by decide +kernel
theorem dX4_fits_1 : decode cX4_fits 1 = .ok (.invokevirtual 146, 3) := by decide +kernel
theorem dX4_fits_4 : decode cX4_fits 4 = .ok (.iconst 1, 1) := by decide +kernel
theorem dX4_fits_5 : decode cX4_fits 5 = .ok (.aload_n 0, 1) := by decide +kernel
theorem dX4_fits_6 : decode cX4_fits 6 = .ok (.getfield 13, 3) := by decide +kernel
theorem dX4_fits_9 : decode cX4_fits 9 = .ok (.iconst 0, 1) := by decide +kernel
theorem dX4_fits_10 : decode cX4_fits 10 = .ok (.iaload, 1) := by decide +kernel
theorem dX4_fits_11 : decode cX4_fits 11 = .ok (.ishl, 1) := by decide +kernel
theorem dX4_fits_12 : decode cX4_fits 12 = .ok (.iconst 1, 1) := by decide +kernel
theorem dX4_fits_13 : decode cX4_fits 13 = .ok (.isub, 1) := by decide +kernel
theorem dX4_fits_14 : decode cX4_fits 14 = .ok (.istore_n 1, 1) := by decide +kernel
theorem dX4_fits_15 : decode cX4_fits 15 = .ok (.iconst 0, 1) := by decide +kernel
theorem dX4_fits_16 : decode cX4_fits 16 = .ok (.istore_n 2, 1) := by decide +kernel
theorem dX4_fits_17 : decode cX4_fits 17 = .ok (.iload_n 2, 1) := by decide +kernel
theorem dX4_fits_18 : decode cX4_fits 18 = .ok (.aload_n 0, 1) := by decide +kernel
theorem dX4_fits_19 : decode cX4_fits 19 = .ok (.getfield 93, 3) := by decide +kernel
theorem dX4_fits_22 : decode cX4_fits 22 = .ok (.if_icmp .ge 18, 3) := by decide +kernel
theorem dX4_fits_25 : decode cX4_fits 25 = .ok (.iload_n 1, 1) := by decide +kernel
theorem dX4_fits_26 : decode cX4_fits 26 = .ok (.aload_n 0, 1) := by decide +kernel
theorem dX4_fits_27 : decode cX4_fits 27 = .ok (.getfield 34, 3) := by decide +kernel
theorem dX4_fits_30 : decode cX4_fits 30 = .ok (.iload_n 2, 1) := by decide +kernel
theorem dX4_fits_31 : decode cX4_fits 31 = .ok (.iaload, 1) := by decide +kernel
theorem dX4_fits_32 : decode cX4_fits 32 = .ok (.iand, 1) := by decide +kernel
theorem dX4_fits_33 : decode cX4_fits 33 = .ok (.istore_n 1, 1) := by decide +kernel
theorem dX4_fits_34 : decode cX4_fits 34 = .ok (.iinc 2 1, 3) := by decide +kernel
theorem dX4_fits_37 : decode cX4_fits 37 = .ok (.goto (-20), 3) := by decide +kernel
theorem dX4_fits_40 : decode cX4_fits 40 = .ok (.iload_n 1, 1) := by decide +kernel
theorem dX4_fits_41 : decode cX4_fits 41 = .ok (.ireturn, 1) := by decide +kernel
theorem dX4_least_0 : decode cX4_least 0 = .ok (.aload_n 0, 1) := by decide +kernel
theorem dX4_least_1 : decode cX4_least 1 = .ok (.invokevirtual 146, 3) := by decide +kernel
theorem dX4_least_4 : decode cX4_least 4 = .ok (.bipush (-4), 2) := by decide +kernel
theorem dX4_least_6 : decode cX4_least 6 = .ok (.istore_n 1, 1) := by decide +kernel
theorem dX4_least_7 : decode cX4_least 7 = .ok (.bipush 6, 2) := by decide +kernel
theorem dX4_least_9 : decode cX4_least 9 = .ok (.istore_n 2, 1) := by decide +kernel
theorem dX4_least_10 : decode cX4_least 10 = .ok (.iconst 0, 1) := by decide +kernel
theorem dX4_least_11 : decode cX4_least 11 = .ok (.istore_n 3, 1) := by decide +kernel
theorem dX4_least_12 : decode cX4_least 12 = .ok (.iload_n 3, 1) := by decide +kernel
theorem dX4_least_13 : decode cX4_least 13 = .ok (.iconst 1, 1) := by decide +kernel
theorem dX4_least_14 : decode cX4_least 14 = .ok (.aload_n 0, 1) := by decide +kernel
theorem dX4_least_15 : decode cX4_least 15 = .ok (.getfield 13, 3) := by decide +kernel
theorem dX4_least_18 : decode cX4_least 18 = .ok (.iconst 0, 1) := by decide +kernel
theorem dX4_least_19 : decode cX4_least 19 = .ok (.iaload, 1) := by decide +kernel
theorem dX4_least_20 : decode cX4_least 20 = .ok (.ishl, 1) := by decide +kernel
theorem dX4_least_21 : decode cX4_least 21 = .ok (.if_icmp .ge 118, 3) := by decide +kernel
theorem dX4_least_24 : decode cX4_least 24 = .ok (.iconst 1, 1) := by decide +kernel
theorem dX4_least_25 : decode cX4_least 25 = .ok (.istore 4, 2) := by decide +kernel
theorem dX4_least_27 : decode cX4_least 27 = .ok (.iconst 0, 1) := by decide +kernel
theorem dX4_least_28 : decode cX4_least 28 = .ok (.istore 5, 2) := by decide +kernel
theorem dX4_least_30 : decode cX4_least 30 = .ok (.iload 5, 2) := by decide +kernel
theorem dX4_least_32 : decode cX4_least 32 = .ok (.aload_n 0, 1) := by decide +kernel
theorem dX4_least_33 : decode cX4_least 33 = .ok (.getfield 93, 3) := by decide +kernel
theorem dX4_least_36 : decode cX4_least 36 = .ok (.if_icmp .ge 33, 3) := by decide +kernel
theorem dX4_least_39 : decode cX4_least 39 = .ok (.iload 4, 2) := by decide +kernel
theorem dX4_least_41 : decode cX4_least 41 = .ok (.ifCond .eq 19, 3) := by decide +kernel
theorem dX4_least_44 : decode cX4_least 44 = .ok (.aload_n 0, 1) := by decide +kernel
theorem dX4_least_45 : decode cX4_least 45 = .ok (.getfield 34, 3) := by decide +kernel
theorem dX4_least_48 : decode cX4_least 48 = .ok (.iload 5, 2) := by decide +kernel
theorem dX4_least_50 : decode cX4_least 50 = .ok (.iaload, 1) := by decide +kernel
theorem dX4_least_51 : decode cX4_least 51 = .ok (.iload_n 3, 1) := by decide +kernel
theorem dX4_least_52 : decode cX4_least 52 = .ok (.iand, 1) := by decide +kernel
theorem dX4_least_53 : decode cX4_least 53 = .ok (.ifCond .eq 7, 3) := by decide +kernel
theorem dX4_least_56 : decode cX4_least 56 = .ok (.iconst 1, 1) := by decide +kernel
theorem dX4_least_57 : decode cX4_least 57 = .ok (.goto 4, 3) := by decide +kernel
theorem dX4_least_60 : decode cX4_least 60 = .ok (.iconst 0, 1) := by decide +kernel
theorem dX4_least_61 : decode cX4_least 61 = .ok (.istore 4, 2) := by decide +kernel
theorem dX4_least_63 : decode cX4_least 63 = .ok (.iinc 5 1, 3) := by decide +kernel
theorem dX4_least_66 : decode cX4_least 66 = .ok (.goto (-36), 3) := by decide +kernel
theorem dX4_least_69 : decode cX4_least 69 = .ok (.iconst 0, 1) := by decide +kernel
theorem dX4_least_70 : decode cX4_least 70 = .ok (.istore 5, 2) := by decide +kernel
theorem dX4_least_72 : decode cX4_least 72 = .ok (.iconst 0, 1) := by decide +kernel
theorem dX4_least_73 : decode cX4_least 73 = .ok (.istore 6, 2) := by decide +kernel
theorem dX4_least_75 : decode cX4_least 75 = .ok (.iload 6, 2) := by decide +kernel
theorem dX4_least_77 : decode cX4_least 77 = .ok (.iconst 5, 1) := by decide +kernel
theorem dX4_least_78 : decode cX4_least 78 = .ok (.if_icmp .ge 20, 3) := by decide +kernel
theorem dX4_least_81 : decode cX4_least 81 = .ok (.iload 5, 2) := by decide +kernel
theorem dX4_least_83 : decode cX4_least 83 = .ok (.iload_n 3, 1) := by decide +kernel
theorem dX4_least_84 : decode cX4_least 84 = .ok (.iload 6, 2) := by decide +kernel
theorem dX4_least_86 : decode cX4_least 86 = .ok (.ishr, 1) := by decide +kernel
theorem dX4_least_87 : decode cX4_least 87 = .ok (.iconst 1, 1) := by decide +kernel
theorem dX4_least_88 : decode cX4_least 88 = .ok (.iand, 1) := by decide +kernel
theorem dX4_least_89 : decode cX4_least 89 = .ok (.iadd, 1) := by decide +kernel
theorem dX4_least_90 : decode cX4_least 90 = .ok (.istore 5, 2) := by decide +kernel
theorem dX4_least_92 : decode cX4_least 92 = .ok (.iinc 6 1, 3) := by decide +kernel
theorem dX4_least_95 : decode cX4_least 95 = .ok (.goto (-20), 3) := by decide +kernel
theorem dX4_least_98 : decode cX4_least 98 = .ok (.iload 4, 2) := by decide +kernel
theorem dX4_least_100 : decode cX4_least 100 = .ok (.ifCond .eq 13, 3) := by decide +kernel
theorem dX4_least_103 : decode cX4_least 103 = .ok (.iload 5, 2) := by decide +kernel
theorem dX4_least_105 : decode cX4_least 105 = .ok (.iload_n 2, 1) := by decide +kernel
theorem dX4_least_106 : decode cX4_least 106 = .ok (.if_icmp .ge 7, 3) := by decide +kernel
theorem dX4_least_109 : decode cX4_least 109 = .ok (.iload_n 3, 1) := by decide +kernel
theorem dX4_least_110 : decode cX4_least 110 = .ok (.goto 4, 3) := by decide +kernel
theorem dX4_least_113 : decode cX4_least 113 = .ok (.iload_n 1, 1) := by decide +kernel
theorem dX4_least_114 : decode cX4_least 114 = .ok (.istore_n 1, 1) := by decide +kernel
theorem dX4_least_115 : decode cX4_least 115 = .ok (.iload 4, 2) := by decide +kernel
theorem dX4_least_117 : decode cX4_least 117 = .ok (.ifCond .eq 14, 3) := by decide +kernel
theorem dX4_least_120 : decode cX4_least 120 = .ok (.iload 5, 2) := by decide +kernel
theorem dX4_least_122 : decode cX4_least 122 = .ok (.iload_n 2, 1) := by decide +kernel
theorem dX4_least_123 : decode cX4_least 123 = .ok (.if_icmp .ge 8, 3) := by decide +kernel
theorem dX4_least_126 : decode cX4_least 126 = .ok (.iload 5, 2) := by decide +kernel
theorem dX4_least_128 : decode cX4_least 128 = .ok (.goto 4, 3) := by decide +kernel
theorem dX4_least_131 : decode cX4_least 131 = .ok (.iload_n 2, 1) := by decide +kernel
theorem dX4_least_132 : decode cX4_least 132 = .ok (.istore_n 2, 1) := by decide +kernel
theorem dX4_least_133 : decode cX4_least 133 = .ok (.iinc 3 1, 3) := by decide +kernel
theorem dX4_least_136 : decode cX4_least 136 = .ok (.goto (-124), 3) := by decide +kernel
theorem dX4_least_139 : decode cX4_least 139 = .ok (.iload_n 1, 1) := by decide +kernel
theorem dX4_least_140 : decode cX4_least 140 = .ok (.ireturn, 1) := by decide +kernel
theorem dX4_month_0 : decode cX4_month 0 = .ok (.iload_n 1, 1) := by decide +kernel
theorem dX4_month_1 : decode cX4_month 1 = .ok (.iconst 0, 1) := by decide +kernel
theorem dX4_month_2 : decode cX4_month 2 = .ok (.sipush 9999, 3) := by decide +kernel
theorem dX4_month_5 : decode cX4_month 5 = .ok (.invokestatic 40, 3) := by decide +kernel
theorem dX4_month_8 : decode cX4_month 8 = .ok (.ifCond .eq 31, 3) := by decide +kernel
theorem dX4_month_11 : decode cX4_month 11 = .ok (.iload_n 2, 1) := by decide +kernel
theorem dX4_month_12 : decode cX4_month 12 = .ok (.iconst 1, 1) := by decide +kernel
theorem dX4_month_13 : decode cX4_month 13 = .ok (.bipush 60, 2) := by decide +kernel
theorem dX4_month_15 : decode cX4_month 15 = .ok (.invokestatic 40, 3) := by decide +kernel
theorem dX4_month_18 : decode cX4_month 18 = .ok (.ifCond .eq 21, 3) := by decide +kernel
theorem dX4_month_21 : decode cX4_month 21 = .ok (.aload_n 0, 1) := by decide +kernel
theorem dX4_month_22 : decode cX4_month 22 = .ok (.iload_n 3, 1) := by decide +kernel
theorem dX4_month_23 : decode cX4_month 23 = .ok (.invokevirtual 99, 3) := by decide +kernel
theorem dX4_month_26 : decode cX4_month 26 = .ok (.ifCond .eq 13, 3) := by decide +kernel
theorem dX4_month_29 : decode cX4_month 29 = .ok (.iload 4, 2) := by decide +kernel
theorem dX4_month_31 : decode cX4_month 31 = .ok (.iconst 0, 1) := by decide +kernel
theorem dX4_month_32 : decode cX4_month 32 = .ok (.iconst 1, 1) := by decide +kernel
theorem dX4_month_33 : decode cX4_month 33 = .ok (.invokestatic 40, 3) := by decide +kernel
theorem dX4_month_36 : decode cX4_month 36 = .ok (.ifCond .ne 5, 3) := by decide +kernel
theorem dX4_month_39 : decode cX4_month 39 = .ok (.iconst (-1), 1) := by decide +kernel
theorem dX4_month_40 : decode cX4_month 40 = .ok (.ireturn, 1) := by decide +kernel
theorem dX4_month_41 : decode cX4_month 41 = .ok (.aload_n 0, 1) := by decide +kernel
theorem dX4_month_42 : decode cX4_month 42 = .ok (.iconst 0, 1) := by decide +kernel
theorem dX4_month_43 : decode cX4_month 43 = .ok (.invokevirtual 115, 3) := by decide +kernel
theorem dX4_month_46 : decode cX4_month 46 = .ok (.iconst 0, 1) := by decide +kernel
theorem dX4_month_47 : decode cX4_month 47 = .ok (.istore 5, 2) := by decide +kernel
theorem dX4_month_49 : decode cX4_month 49 = .ok (.iload 5, 2) := by decide +kernel
theorem dX4_month_51 : decode cX4_month 51 = .ok (.iload_n 2, 1) := by decide +kernel
theorem dX4_month_52 : decode cX4_month 52 = .ok (.if_icmp .ge 83, 3) := by decide +kernel
theorem dX4_month_55 : decode cX4_month 55 = .ok (.ldc2_w 149, 3) := by decide +kernel
theorem dX4_month_58 : decode cX4_month 58 = .ok (.iload_n 1, 1) := by decide +kernel
theorem dX4_month_59 : decode cX4_month 59 = .ok (.i2l, 1) := by decide +kernel
theorem dX4_month_60 : decode cX4_month 60 = .ok (.lmul, 1) := by decide +kernel
theorem dX4_month_61 : decode cX4_month 61 = .ok (.ldc2_w 151, 3) := by decide +kernel
theorem dX4_month_64 : decode cX4_month 64 = .ok (.iload 5, 2) := by decide +kernel
theorem dX4_month_66 : decode cX4_month 66 = .ok (.i2l, 1) := by decide +kernel
theorem dX4_month_67 : decode cX4_month 67 = .ok (.lmul, 1) := by decide +kernel
theorem dX4_month_68 : decode cX4_month 68 = .ok (.ladd, 1) := by decide +kernel
theorem dX4_month_69 : decode cX4_month 69 = .ok (.lconst 1, 1) := by decide +kernel
theorem dX4_month_70 : decode cX4_month 70 = .ok (.ladd, 1) := by decide +kernel
theorem dX4_month_71 : decode cX4_month 71 = .ok (.lstore 6, 2) := by decide +kernel
theorem dX4_month_73 : decode cX4_month 73 = .ok (.lload 6, 2) := by decide +kernel
theorem dX4_month_75 : decode cX4_month 75 = .ok (.lload 6, 2) := by decide +kernel
theorem dX4_month_77 : decode cX4_month 77 = .ok (.lmul, 1) := by decide +kernel
theorem dX4_month_78 : decode cX4_month 78 = .ok (.ldc2_w 153, 3) := by decide +kernel
theorem dX4_month_81 : decode cX4_month 81 = .ok (.lrem, 1) := by decide +kernel
theorem dX4_month_82 : decode cX4_month 82 = .ok (.l2i, 1) := by decide +kernel
theorem dX4_month_83 : decode cX4_month 83 = .ok (.istore 8, 2) := by decide +kernel
theorem dX4_month_85 : decode cX4_month 85 = .ok (.aload_n 0, 1) := by decide +kernel
theorem dX4_month_86 : decode cX4_month 86 = .ok (.getfield 22, 3) := by decide +kernel
theorem dX4_month_89 : decode cX4_month 89 = .ok (.iconst 1, 1) := by decide +kernel
theorem dX4_month_90 : decode cX4_month 90 = .ok (.iconst 2, 1) := by decide +kernel
theorem dX4_month_91 : decode cX4_month 91 = .ok (.iload 8, 2) := by decide +kernel
theorem dX4_month_93 : decode cX4_month 93 = .ok (.bipush 8, 2) := by decide +kernel
theorem dX4_month_95 : decode cX4_month 95 = .ok (.idiv, 1) := by decide +kernel
theorem dX4_month_96 : decode cX4_month 96 = .ok (.aload_n 0, 1) := by decide +kernel
theorem dX4_month_97 : decode cX4_month 97 = .ok (.getfield 13, 3) := by decide +kernel
theorem dX4_month_100 : decode cX4_month 100 = .ok (.iconst 0, 1) := by decide +kernel
theorem dX4_month_101 : decode cX4_month 101 = .ok (.iaload, 1) := by decide +kernel
theorem dX4_month_102 : decode cX4_month 102 = .ok (.irem, 1) := by decide +kernel
theorem dX4_month_103 : decode cX4_month 103 = .ok (.imul, 1) := by decide +kernel
theorem dX4_month_104 : decode cX4_month 104 = .ok (.iadd, 1) := by decide +kernel
theorem dX4_month_105 : decode cX4_month 105 = .ok (.aload_n 0, 1) := by decide +kernel
theorem dX4_month_106 : decode cX4_month 106 = .ok (.getfield 22, 3) := by decide +kernel
theorem dX4_month_109 : decode cX4_month 109 = .ok (.iconst 0, 1) := by decide +kernel
theorem dX4_month_110 : decode cX4_month 110 = .ok (.iaload, 1) := by decide +kernel
theorem dX4_month_111 : decode cX4_month 111 = .ok (.iconst 2, 1) := by decide +kernel
theorem dX4_month_112 : decode cX4_month 112 = .ok (.irem, 1) := by decide +kernel
theorem dX4_month_113 : decode cX4_month 113 = .ok (.iadd, 1) := by decide +kernel
theorem dX4_month_114 : decode cX4_month 114 = .ok (.dup2, 1) := by decide +kernel
theorem dX4_month_115 : decode cX4_month 115 = .ok (.iaload, 1) := by decide +kernel
theorem dX4_month_116 : decode cX4_month 116 = .ok (.iconst 1, 1) := by decide +kernel
theorem dX4_month_117 : decode cX4_month 117 = .ok (.iload 8, 2) := by decide +kernel
theorem dX4_month_119 : decode cX4_month 119 = .ok (.bipush 8, 2) := by decide +kernel
theorem dX4_month_121 : decode cX4_month 121 = .ok (.irem, 1) := by decide +kernel
theorem dX4_month_122 : decode cX4_month 122 = .ok (.ishl, 1) := by decide +kernel
theorem dX4_month_123 : decode cX4_month 123 = .ok (.ior, 1) := by decide +kernel
theorem dX4_month_124 : decode cX4_month 124 = .ok (.iastore, 1) := by decide +kernel
theorem dX4_month_125 : decode cX4_month 125 = .ok (.aload_n 0, 1) := by decide +kernel
theorem dX4_month_126 : decode cX4_month 126 = .ok (.invokevirtual 112, 3) := by decide +kernel
theorem dX4_month_129 : decode cX4_month 129 = .ok (.iinc 5 1, 3) := by decide +kernel
theorem dX4_month_132 : decode cX4_month 132 = .ok (.goto (-83), 3) := by decide +kernel
theorem dX4_month_135 : decode cX4_month 135 = .ok (.aload_n 0, 1) := by decide +kernel
theorem dX4_month_136 : decode cX4_month 136 = .ok (.getfield 22, 3) := by decide +kernel
theorem dX4_month_139 : decode cX4_month 139 = .ok (.iconst 1, 1) := by decide +kernel
theorem dX4_month_140 : decode cX4_month 140 = .ok (.iconst 2, 1) := by decide +kernel
theorem dX4_month_141 : decode cX4_month 141 = .ok (.iload_n 3, 1) := by decide +kernel
theorem dX4_month_142 : decode cX4_month 142 = .ok (.imul, 1) := by decide +kernel
theorem dX4_month_143 : decode cX4_month 143 = .ok (.iadd, 1) := by decide +kernel
theorem dX4_month_144 : decode cX4_month 144 = .ok (.iload 4, 2) := by decide +kernel
theorem dX4_month_146 : decode cX4_month 146 = .ok (.iadd, 1) := by decide +kernel
theorem dX4_month_147 : decode cX4_month 147 = .ok (.iaload, 1) := by decide +kernel
theorem dX4_month_148 : decode cX4_month 148 = .ok (.ireturn, 1) := by decide +kernel
theorem dX4_keep_0 : decode cX4_keep 0 = .ok (.aload_n 0, 1) := by decide +kernel
theorem dX4_keep_1 : decode cX4_keep 1 = .ok (.getfield 96, 3) := by decide +kernel
theorem dX4_keep_4 : decode cX4_keep 4 = .ok (.iconst 2, 1) := by decide +kernel
theorem dX4_keep_5 : decode cX4_keep 5 = .ok (.if_icmp .ne 6, 3) := by decide +kernel
theorem dX4_keep_8 : decode cX4_keep 8 = .ok (.bipush (-3), 2) := by decide +kernel
theorem dX4_keep_10 : decode cX4_keep 10 = .ok (.ireturn, 1) := by decide +kernel
theorem dX4_keep_11 : decode cX4_keep 11 = .ok (.iconst 0, 1) := by decide +kernel
theorem dX4_keep_12 : decode cX4_keep 12 = .ok (.istore_n 1, 1) := by decide +kernel
theorem dX4_keep_13 : decode cX4_keep 13 = .ok (.iload_n 1, 1) := by decide +kernel
theorem dX4_keep_14 : decode cX4_keep 14 = .ok (.bipush 16, 2) := by decide +kernel
theorem dX4_keep_16 : decode cX4_keep 16 = .ok (.if_icmp .ge 29, 3) := by decide +kernel
theorem dX4_keep_19 : decode cX4_keep 19 = .ok (.aload_n 0, 1) := by decide +kernel
theorem dX4_keep_20 : decode cX4_keep 20 = .ok (.getfield 25, 3) := by decide +kernel
theorem dX4_keep_23 : decode cX4_keep 23 = .ok (.bipush 16, 2) := by decide +kernel
theorem dX4_keep_25 : decode cX4_keep 25 = .ok (.aload_n 0, 1) := by decide +kernel
theorem dX4_keep_26 : decode cX4_keep 26 = .ok (.getfield 96, 3) := by decide +kernel
theorem dX4_keep_29 : decode cX4_keep 29 = .ok (.imul, 1) := by decide +kernel
theorem dX4_keep_30 : decode cX4_keep 30 = .ok (.iload_n 1, 1) := by decide +kernel
theorem dX4_keep_31 : decode cX4_keep 31 = .ok (.iadd, 1) := by decide +kernel
theorem dX4_keep_32 : decode cX4_keep 32 = .ok (.aload_n 0, 1) := by decide +kernel
theorem dX4_keep_33 : decode cX4_keep 33 = .ok (.getfield 19, 3) := by decide +kernel
theorem dX4_keep_36 : decode cX4_keep 36 = .ok (.iload_n 1, 1) := by decide +kernel
theorem dX4_keep_37 : decode cX4_keep 37 = .ok (.iaload, 1) := by decide +kernel
theorem dX4_keep_38 : decode cX4_keep 38 = .ok (.iastore, 1) := by decide +kernel
theorem dX4_keep_39 : decode cX4_keep 39 = .ok (.iinc 1 1, 3) := by decide +kernel
theorem dX4_keep_42 : decode cX4_keep 42 = .ok (.goto (-29), 3) := by decide +kernel
theorem dX4_keep_45 : decode cX4_keep 45 = .ok (.aload_n 0, 1) := by decide +kernel
theorem dX4_keep_46 : decode cX4_keep 46 = .ok (.dup, 1) := by decide +kernel
theorem dX4_keep_47 : decode cX4_keep 47 = .ok (.getfield 96, 3) := by decide +kernel
theorem dX4_keep_50 : decode cX4_keep 50 = .ok (.iconst 1, 1) := by decide +kernel
theorem dX4_keep_51 : decode cX4_keep 51 = .ok (.iadd, 1) := by decide +kernel
theorem dX4_keep_52 : decode cX4_keep 52 = .ok (.putfield 96, 3) := by decide +kernel
theorem dX4_keep_55 : decode cX4_keep 55 = .ok (.aload_n 0, 1) := by decide +kernel
theorem dX4_keep_56 : decode cX4_keep 56 = .ok (.getfield 96, 3) := by decide +kernel
theorem dX4_keep_59 : decode cX4_keep 59 = .ok (.ireturn, 1) := by decide +kernel
theorem dX4_back_0 : decode cX4_back 0 = .ok (.aload_n 0, 1) := by decide +kernel
theorem dX4_back_1 : decode cX4_back 1 = .ok (.getfield 96, 3) := by decide +kernel
theorem dX4_back_4 : decode cX4_back 4 = .ok (.ifCond .ne 6, 3) := by decide +kernel
theorem dX4_back_7 : decode cX4_back 7 = .ok (.bipush (-2), 2) := by decide +kernel
theorem dX4_back_9 : decode cX4_back 9 = .ok (.ireturn, 1) := by decide +kernel
theorem dX4_back_10 : decode cX4_back 10 = .ok (.aload_n 0, 1) := by decide +kernel
theorem dX4_back_11 : decode cX4_back 11 = .ok (.dup, 1) := by decide +kernel
theorem dX4_back_12 : decode cX4_back 12 = .ok (.getfield 96, 3) := by decide +kernel
theorem dX4_back_15 : decode cX4_back 15 = .ok (.iconst 1, 1) := by decide +kernel
theorem dX4_back_16 : decode cX4_back 16 = .ok (.isub, 1) := by decide +kernel
theorem dX4_back_17 : decode cX4_back 17 = .ok (.putfield 96, 3) := by decide +kernel
theorem dX4_back_20 : decode cX4_back 20 = .ok (.iconst 0, 1) := by decide +kernel
theorem dX4_back_21 : decode cX4_back 21 = .ok (.istore_n 1, 1) := by decide +kernel
theorem dX4_back_22 : decode cX4_back 22 = .ok (.iload_n 1, 1) := by decide +kernel
theorem dX4_back_23 : decode cX4_back 23 = .ok (.bipush 16, 2) := by decide +kernel
theorem dX4_back_25 : decode cX4_back 25 = .ok (.if_icmp .ge 29, 3) := by decide +kernel
theorem dX4_back_28 : decode cX4_back 28 = .ok (.aload_n 0, 1) := by decide +kernel
theorem dX4_back_29 : decode cX4_back 29 = .ok (.getfield 19, 3) := by decide +kernel
theorem dX4_back_32 : decode cX4_back 32 = .ok (.iload_n 1, 1) := by decide +kernel
theorem dX4_back_33 : decode cX4_back 33 = .ok (.aload_n 0, 1) := by decide +kernel
theorem dX4_back_34 : decode cX4_back 34 = .ok (.getfield 25, 3) := by decide +kernel
theorem dX4_back_37 : decode cX4_back 37 = .ok (.bipush 16, 2) := by decide +kernel
theorem dX4_back_39 : decode cX4_back 39 = .ok (.aload_n 0, 1) := by decide +kernel
theorem dX4_back_40 : decode cX4_back 40 = .ok (.getfield 96, 3) := by decide +kernel
theorem dX4_back_43 : decode cX4_back 43 = .ok (.imul, 1) := by decide +kernel
theorem dX4_back_44 : decode cX4_back 44 = .ok (.iload_n 1, 1) := by decide +kernel
theorem dX4_back_45 : decode cX4_back 45 = .ok (.iadd, 1) := by decide +kernel
theorem dX4_back_46 : decode cX4_back 46 = .ok (.iaload, 1) := by decide +kernel
theorem dX4_back_47 : decode cX4_back 47 = .ok (.iastore, 1) := by decide +kernel
theorem dX4_back_48 : decode cX4_back 48 = .ok (.iinc 1 1, 3) := by decide +kernel
theorem dX4_back_51 : decode cX4_back 51 = .ok (.goto (-29), 3) := by decide +kernel
theorem dX4_back_54 : decode cX4_back 54 = .ok (.aload_n 0, 1) := by decide +kernel
theorem dX4_back_55 : decode cX4_back 55 = .ok (.getfield 96, 3) := by decide +kernel
theorem dX4_back_58 : decode cX4_back 58 = .ok (.ireturn, 1) := by decide +kernel
theorem dX4_count_0 : decode cX4_count 0 = .ok (.iload_n 1, 1) := by decide +kernel
theorem dX4_count_1 : decode cX4_count 1 = .ok (.iconst 0, 1) := by decide +kernel
theorem dX4_count_2 : decode cX4_count 2 = .ok (.iconst 2, 1) := by decide +kernel
theorem dX4_count_3 : decode cX4_count 3 = .ok (.invokestatic 40, 3) := by decide +kernel
theorem dX4_count_6 : decode cX4_count 6 = .ok (.ifCond .eq 12, 3) := by decide +kernel
theorem dX4_count_9 : decode cX4_count 9 = .ok (.aload_n 0, 1) := by decide +kernel
theorem dX4_count_10 : decode cX4_count 10 = .ok (.getfield 13, 3) := by decide +kernel
theorem dX4_count_13 : decode cX4_count 13 = .ok (.iload_n 1, 1) := by decide +kernel
theorem dX4_count_14 : decode cX4_count 14 = .ok (.iaload, 1) := by decide +kernel
theorem dX4_count_15 : decode cX4_count 15 = .ok (.goto 85, 3) := by decide +kernel
theorem dX4_count_18 : decode cX4_count 18 = .ok (.iload_n 1, 1) := by decide +kernel
theorem dX4_count_19 : decode cX4_count 19 = .ok (.iconst 3, 1) := by decide +kernel
theorem dX4_count_20 : decode cX4_count 20 = .ok (.if_icmp .ne 12, 3) := by decide +kernel
theorem dX4_count_23 : decode cX4_count 23 = .ok (.aload_n 0, 1) := by decide +kernel
theorem dX4_count_24 : decode cX4_count 24 = .ok (.getfield 19, 3) := by decide +kernel
theorem dX4_count_27 : decode cX4_count 27 = .ok (.iconst 0, 1) := by decide +kernel
theorem dX4_count_28 : decode cX4_count 28 = .ok (.iaload, 1) := by decide +kernel
theorem dX4_count_29 : decode cX4_count 29 = .ok (.goto 71, 3) := by decide +kernel
theorem dX4_count_32 : decode cX4_count 32 = .ok (.iload_n 1, 1) := by decide +kernel
theorem dX4_count_33 : decode cX4_count 33 = .ok (.iconst 4, 1) := by decide +kernel
theorem dX4_count_34 : decode cX4_count 34 = .ok (.if_icmp .ne 10, 3) := by decide +kernel
theorem dX4_count_37 : decode cX4_count 37 = .ok (.aload_n 0, 1) := by decide +kernel
theorem dX4_count_38 : decode cX4_count 38 = .ok (.getfield 93, 3) := by decide +kernel
theorem dX4_count_41 : decode cX4_count 41 = .ok (.goto 59, 3) := by decide +kernel
theorem dX4_count_44 : decode cX4_count 44 = .ok (.iload_n 1, 1) := by decide +kernel
theorem dX4_count_45 : decode cX4_count 45 = .ok (.iconst 5, 1) := by decide +kernel
theorem dX4_count_46 : decode cX4_count 46 = .ok (.if_icmp .ne 10, 3) := by decide +kernel
theorem dX4_count_49 : decode cX4_count 49 = .ok (.aload_n 0, 1) := by decide +kernel
theorem dX4_count_50 : decode cX4_count 50 = .ok (.getfield 96, 3) := by decide +kernel
theorem dX4_count_53 : decode cX4_count 53 = .ok (.goto 47, 3) := by decide +kernel
theorem dX4_count_56 : decode cX4_count 56 = .ok (.iload_n 1, 1) := by decide +kernel
theorem dX4_count_57 : decode cX4_count 57 = .ok (.bipush 6, 2) := by decide +kernel
theorem dX4_count_59 : decode cX4_count 59 = .ok (.if_icmp .ne 10, 3) := by decide +kernel
theorem dX4_count_62 : decode cX4_count 62 = .ok (.aload_n 0, 1) := by decide +kernel
theorem dX4_count_63 : decode cX4_count 63 = .ok (.getfield 44, 3) := by decide +kernel
theorem dX4_count_66 : decode cX4_count 66 = .ok (.goto 34, 3) := by decide +kernel
theorem dX4_count_69 : decode cX4_count 69 = .ok (.iload_n 1, 1) := by decide +kernel
theorem dX4_count_70 : decode cX4_count 70 = .ok (.bipush 7, 2) := by decide +kernel
theorem dX4_count_72 : decode cX4_count 72 = .ok (.if_icmp .ne 12, 3) := by decide +kernel
theorem dX4_count_75 : decode cX4_count 75 = .ok (.aload_n 0, 1) := by decide +kernel
theorem dX4_count_76 : decode cX4_count 76 = .ok (.getfield 13, 3) := by decide +kernel
theorem dX4_count_79 : decode cX4_count 79 = .ok (.iconst 3, 1) := by decide +kernel
theorem dX4_count_80 : decode cX4_count 80 = .ok (.iaload, 1) := by decide +kernel
theorem dX4_count_81 : decode cX4_count 81 = .ok (.goto 19, 3) := by decide +kernel
theorem dX4_count_84 : decode cX4_count 84 = .ok (.iload_n 1, 1) := by decide +kernel
theorem dX4_count_85 : decode cX4_count 85 = .ok (.bipush 8, 2) := by decide +kernel
theorem dX4_count_87 : decode cX4_count 87 = .ok (.if_icmp .ne 12, 3) := by decide +kernel
theorem dX4_count_90 : decode cX4_count 90 = .ok (.aload_n 0, 1) := by decide +kernel
theorem dX4_count_91 : decode cX4_count 91 = .ok (.getfield 13, 3) := by decide +kernel
theorem dX4_count_94 : decode cX4_count 94 = .ok (.iconst 4, 1) := by decide +kernel
theorem dX4_count_95 : decode cX4_count 95 = .ok (.iaload, 1) := by decide +kernel
theorem dX4_count_96 : decode cX4_count 96 = .ok (.goto 4, 3) := by decide +kernel
theorem dX4_count_99 : decode cX4_count 99 = .ok (.iconst (-1), 1) := by decide +kernel
theorem dX4_count_100 : decode cX4_count 100 = .ok (.ireturn, 1) := by decide +kernel
