theorem dX8_isLetter_0 : decode cX8_isLetter 0 = .ok (.iload_n 0, 1) := by decide +kernel
theorem dX8_isLetter_1 : decode cX8_isLetter 1 = .ok (.bipush 65, 2) := by decide +kernel
theorem dX8_isLetter_3 : decode cX8_isLetter 3 = .ok (.if_icmp .lt 9, 3) := by decide +kernel
theorem dX8_isLetter_6 : decode cX8_isLetter 6 = .ok (.iload_n 0, 1) := by decide +kernel
theorem dX8_isLetter_7 : decode cX8_isLetter 7 = .ok (.bipush 90, 2) := by decide +kernel
theorem dX8_isLetter_9 : decode cX8_isLetter 9 = .ok (.if_icmp .le 21, 3) := by decide +kernel
theorem dX8_isLetter_12 : decode cX8_isLetter 12 = .ok (.iload_n 0, 1) := by decide +kernel
theorem dX8_isLetter_13 : decode cX8_isLetter 13 = .ok (.bipush 97, 2) := by decide +kernel
theorem dX8_isLetter_15 : decode cX8_isLetter 15 = .ok (.if_icmp .lt 9, 3) := by decide +kernel
theorem dX8_isLetter_18 : decode cX8_isLetter 18 = .ok (.iload_n 0, 1) := by decide +kernel
theorem dX8_isLetter_19 : decode cX8_isLetter 19 = .ok (.bipush 122, 2) := by decide +kernel
theorem dX8_isLetter_21 : decode cX8_isLetter 21 = .ok (.if_icmp .le 9, 3) := by decide +kernel
theorem dX8_isLetter_24 : decode cX8_isLetter 24 = .ok (.iload_n 0, 1) := by decide +kernel
theorem dX8_isLetter_25 : decode cX8_isLetter 25 = .ok (.bipush 95, 2) := by decide +kernel
theorem dX8_isLetter_27 : decode cX8_isLetter 27 = .ok (.if_icmp .ne 7, 3) := by decide +kernel
theorem dX8_isLetter_30 : decode cX8_isLetter 30 = .ok (.iconst 1, 1) := by decide +kernel
theorem dX8_isLetter_31 : decode cX8_isLetter 31 = .ok (.goto 4, 3) := by decide +kernel
theorem dX8_isLetter_34 : decode cX8_isLetter 34 = .ok (.iconst 0, 1) := by decide +kernel
theorem dX8_isLetter_35 : decode cX8_isLetter 35 = .ok (.ireturn, 1) := by decide +kernel

theorem dX8_isDigit_0 : decode cX8_isDigit 0 = .ok (.iload_n 0, 1) := by decide +kernel
theorem dX8_isDigit_1 : decode cX8_isDigit 1 = .ok (.bipush 48, 2) := by decide +kernel
theorem dX8_isDigit_3 : decode cX8_isDigit 3 = .ok (.if_icmp .lt 13, 3) := by decide +kernel
theorem dX8_isDigit_6 : decode cX8_isDigit 6 = .ok (.iload_n 0, 1) := by decide +kernel
theorem dX8_isDigit_7 : decode cX8_isDigit 7 = .ok (.bipush 57, 2) := by decide +kernel
theorem dX8_isDigit_9 : decode cX8_isDigit 9 = .ok (.if_icmp .gt 7, 3) := by decide +kernel
theorem dX8_isDigit_12 : decode cX8_isDigit 12 = .ok (.iconst 1, 1) := by decide +kernel
theorem dX8_isDigit_13 : decode cX8_isDigit 13 = .ok (.goto 4, 3) := by decide +kernel
theorem dX8_isDigit_16 : decode cX8_isDigit 16 = .ok (.iconst 0, 1) := by decide +kernel
theorem dX8_isDigit_17 : decode cX8_isDigit 17 = .ok (.ireturn, 1) := by decide +kernel

theorem dX8_great_0 : decode cX8_great 0 = .ok (.iload_n 0, 1) := by decide +kernel
theorem dX8_great_1 : decode cX8_great 1 = .ok (.bipush 97, 2) := by decide +kernel
theorem dX8_great_3 : decode cX8_great 3 = .ok (.if_icmp .lt 16, 3) := by decide +kernel
theorem dX8_great_6 : decode cX8_great 6 = .ok (.iload_n 0, 1) := by decide +kernel
theorem dX8_great_7 : decode cX8_great 7 = .ok (.bipush 122, 2) := by decide +kernel
theorem dX8_great_9 : decode cX8_great 9 = .ok (.if_icmp .gt 10, 3) := by decide +kernel
theorem dX8_great_12 : decode cX8_great 12 = .ok (.iload_n 0, 1) := by decide +kernel
theorem dX8_great_13 : decode cX8_great 13 = .ok (.bipush 32, 2) := by decide +kernel
theorem dX8_great_15 : decode cX8_great 15 = .ok (.isub, 1) := by decide +kernel
theorem dX8_great_16 : decode cX8_great 16 = .ok (.goto 4, 3) := by decide +kernel
theorem dX8_great_19 : decode cX8_great 19 = .ok (.iload_n 0, 1) := by decide +kernel
theorem dX8_great_20 : decode cX8_great 20 = .ok (.ireturn, 1) := by decide +kernel

theorem dX8_at_0 : decode cX8_at 0 = .ok (.iload_n 1, 1) := by decide +kernel
theorem dX8_at_1 : decode cX8_at 1 = .ok (.aload_n 0, 1) := by decide +kernel
theorem dX8_at_2 : decode cX8_at 2 = .ok (.getfield 86, 3) := by decide +kernel
theorem dX8_at_5 : decode cX8_at 5 = .ok (.if_icmp .ge 12, 3) := by decide +kernel
theorem dX8_at_8 : decode cX8_at 8 = .ok (.aload_n 0, 1) := by decide +kernel
theorem dX8_at_9 : decode cX8_at 9 = .ok (.getfield 22, 3) := by decide +kernel
theorem dX8_at_12 : decode cX8_at 12 = .ok (.iload_n 1, 1) := by decide +kernel
theorem dX8_at_13 : decode cX8_at 13 = .ok (.iaload, 1) := by decide +kernel
theorem dX8_at_14 : decode cX8_at 14 = .ok (.goto 4, 3) := by decide +kernel
theorem dX8_at_17 : decode cX8_at 17 = .ok (.iconst (-1), 1) := by decide +kernel
theorem dX8_at_18 : decode cX8_at 18 = .ok (.ireturn, 1) := by decide +kernel

theorem dX8_goesOn_0 : decode cX8_goesOn 0 = .ok (.aload_n 0, 1) := by decide +kernel
theorem dX8_goesOn_1 : decode cX8_goesOn 1 = .ok (.iload_n 1, 1) := by decide +kernel
theorem dX8_goesOn_2 : decode cX8_goesOn 2 = .ok (.invokevirtual 89, 3) := by decide +kernel
theorem dX8_goesOn_5 : decode cX8_goesOn 5 = .ok (.invokestatic 93, 3) := by decide +kernel
theorem dX8_goesOn_8 : decode cX8_goesOn 8 = .ok (.ifCond .ne 14, 3) := by decide +kernel
theorem dX8_goesOn_11 : decode cX8_goesOn 11 = .ok (.aload_n 0, 1) := by decide +kernel
theorem dX8_goesOn_12 : decode cX8_goesOn 12 = .ok (.iload_n 1, 1) := by decide +kernel
theorem dX8_goesOn_13 : decode cX8_goesOn 13 = .ok (.invokevirtual 89, 3) := by decide +kernel
theorem dX8_goesOn_16 : decode cX8_goesOn 16 = .ok (.invokestatic 97, 3) := by decide +kernel
theorem dX8_goesOn_19 : decode cX8_goesOn 19 = .ok (.ifCond .eq 7, 3) := by decide +kernel
theorem dX8_goesOn_22 : decode cX8_goesOn 22 = .ok (.iconst 1, 1) := by decide +kernel
theorem dX8_goesOn_23 : decode cX8_goesOn 23 = .ok (.goto 4, 3) := by decide +kernel
theorem dX8_goesOn_26 : decode cX8_goesOn 26 = .ok (.iconst 0, 1) := by decide +kernel
theorem dX8_goesOn_27 : decode cX8_goesOn 27 = .ok (.ireturn, 1) := by decide +kernel

theorem dX8_clear_0 : decode cX8_clear 0 = .ok (.aload_n 0, 1) := by decide +kernel
theorem dX8_clear_1 : decode cX8_clear 1 = .ok (.getfield 86, 3) := by decide +kernel
theorem dX8_clear_4 : decode cX8_clear 4 = .ok (.istore_n 1, 1) := by decide +kernel
theorem dX8_clear_5 : decode cX8_clear 5 = .ok (.aload_n 0, 1) := by decide +kernel
theorem dX8_clear_6 : decode cX8_clear 6 = .ok (.iconst 0, 1) := by decide +kernel
theorem dX8_clear_7 : decode cX8_clear 7 = .ok (.putfield 86, 3) := by decide +kernel
theorem dX8_clear_10 : decode cX8_clear 10 = .ok (.iload_n 1, 1) := by decide +kernel
theorem dX8_clear_11 : decode cX8_clear 11 = .ok (.ireturn, 1) := by decide +kernel

theorem dX8_feed_0 : decode cX8_feed 0 = .ok (.aload_n 0, 1) := by decide +kernel
theorem dX8_feed_1 : decode cX8_feed 1 = .ok (.getfield 86, 3) := by decide +kernel
theorem dX8_feed_4 : decode cX8_feed 4 = .ok (.bipush 20, 2) := by decide +kernel
theorem dX8_feed_6 : decode cX8_feed 6 = .ok (.iadd, 1) := by decide +kernel
theorem dX8_feed_7 : decode cX8_feed 7 = .ok (.sipush 8192, 3) := by decide +kernel
theorem dX8_feed_10 : decode cX8_feed 10 = .ok (.if_icmp .le 5, 3) := by decide +kernel
theorem dX8_feed_13 : decode cX8_feed 13 = .ok (.iconst (-1), 1) := by decide +kernel
theorem dX8_feed_14 : decode cX8_feed 14 = .ok (.ireturn, 1) := by decide +kernel
theorem dX8_feed_15 : decode cX8_feed 15 = .ok (.iconst 0, 1) := by decide +kernel
theorem dX8_feed_16 : decode cX8_feed 16 = .ok (.istore 6, 2) := by decide +kernel
theorem dX8_feed_18 : decode cX8_feed 18 = .ok (.iload 6, 2) := by decide +kernel
theorem dX8_feed_20 : decode cX8_feed 20 = .ok (.bipush 20, 2) := by decide +kernel
theorem dX8_feed_22 : decode cX8_feed 22 = .ok (.if_icmp .ge 86, 3) := by decide +kernel
theorem dX8_feed_25 : decode cX8_feed 25 = .ok (.iload 6, 2) := by decide +kernel
theorem dX8_feed_27 : decode cX8_feed 27 = .ok (.iconst 4, 1) := by decide +kernel
theorem dX8_feed_28 : decode cX8_feed 28 = .ok (.if_icmp .ge 7, 3) := by decide +kernel
theorem dX8_feed_31 : decode cX8_feed 31 = .ok (.iload_n 1, 1) := by decide +kernel
theorem dX8_feed_32 : decode cX8_feed 32 = .ok (.goto 39, 3) := by decide +kernel
theorem dX8_feed_35 : decode cX8_feed 35 = .ok (.iload 6, 2) := by decide +kernel
theorem dX8_feed_37 : decode cX8_feed 37 = .ok (.bipush 8, 2) := by decide +kernel
theorem dX8_feed_39 : decode cX8_feed 39 = .ok (.if_icmp .ge 7, 3) := by decide +kernel
theorem dX8_feed_42 : decode cX8_feed 42 = .ok (.iload_n 2, 1) := by decide +kernel
theorem dX8_feed_43 : decode cX8_feed 43 = .ok (.goto 28, 3) := by decide +kernel
theorem dX8_feed_46 : decode cX8_feed 46 = .ok (.iload 6, 2) := by decide +kernel
theorem dX8_feed_48 : decode cX8_feed 48 = .ok (.bipush 12, 2) := by decide +kernel
theorem dX8_feed_50 : decode cX8_feed 50 = .ok (.if_icmp .ge 7, 3) := by decide +kernel
theorem dX8_feed_53 : decode cX8_feed 53 = .ok (.iload_n 3, 1) := by decide +kernel
theorem dX8_feed_54 : decode cX8_feed 54 = .ok (.goto 17, 3) := by decide +kernel
theorem dX8_feed_57 : decode cX8_feed 57 = .ok (.iload 6, 2) := by decide +kernel
theorem dX8_feed_59 : decode cX8_feed 59 = .ok (.bipush 16, 2) := by decide +kernel
theorem dX8_feed_61 : decode cX8_feed 61 = .ok (.if_icmp .ge 8, 3) := by decide +kernel
theorem dX8_feed_64 : decode cX8_feed 64 = .ok (.iload 4, 2) := by decide +kernel
theorem dX8_feed_66 : decode cX8_feed 66 = .ok (.goto 5, 3) := by decide +kernel
theorem dX8_feed_69 : decode cX8_feed 69 = .ok (.iload 5, 2) := by decide +kernel
theorem dX8_feed_71 : decode cX8_feed 71 = .ok (.istore 7, 2) := by decide +kernel
theorem dX8_feed_73 : decode cX8_feed 73 = .ok (.aload_n 0, 1) := by decide +kernel
theorem dX8_feed_74 : decode cX8_feed 74 = .ok (.getfield 22, 3) := by decide +kernel
theorem dX8_feed_77 : decode cX8_feed 77 = .ok (.aload_n 0, 1) := by decide +kernel
theorem dX8_feed_78 : decode cX8_feed 78 = .ok (.getfield 86, 3) := by decide +kernel
theorem dX8_feed_81 : decode cX8_feed 81 = .ok (.iload 6, 2) := by decide +kernel
theorem dX8_feed_83 : decode cX8_feed 83 = .ok (.iadd, 1) := by decide +kernel
theorem dX8_feed_84 : decode cX8_feed 84 = .ok (.iload 7, 2) := by decide +kernel
theorem dX8_feed_86 : decode cX8_feed 86 = .ok (.bipush 24, 2) := by decide +kernel
theorem dX8_feed_88 : decode cX8_feed 88 = .ok (.bipush 8, 2) := by decide +kernel
theorem dX8_feed_90 : decode cX8_feed 90 = .ok (.iload 6, 2) := by decide +kernel
theorem dX8_feed_92 : decode cX8_feed 92 = .ok (.iconst 4, 1) := by decide +kernel
theorem dX8_feed_93 : decode cX8_feed 93 = .ok (.irem, 1) := by decide +kernel
theorem dX8_feed_94 : decode cX8_feed 94 = .ok (.imul, 1) := by decide +kernel
theorem dX8_feed_95 : decode cX8_feed 95 = .ok (.isub, 1) := by decide +kernel
theorem dX8_feed_96 : decode cX8_feed 96 = .ok (.ishr, 1) := by decide +kernel
theorem dX8_feed_97 : decode cX8_feed 97 = .ok (.sipush 255, 3) := by decide +kernel
theorem dX8_feed_100 : decode cX8_feed 100 = .ok (.iand, 1) := by decide +kernel
theorem dX8_feed_101 : decode cX8_feed 101 = .ok (.iastore, 1) := by decide +kernel
theorem dX8_feed_102 : decode cX8_feed 102 = .ok (.iinc 6 1, 3) := by decide +kernel
theorem dX8_feed_105 : decode cX8_feed 105 = .ok (.goto (-87), 3) := by decide +kernel
theorem dX8_feed_108 : decode cX8_feed 108 = .ok (.aload_n 0, 1) := by decide +kernel
theorem dX8_feed_109 : decode cX8_feed 109 = .ok (.dup, 1) := by decide +kernel
theorem dX8_feed_110 : decode cX8_feed 110 = .ok (.getfield 86, 3) := by decide +kernel
theorem dX8_feed_113 : decode cX8_feed 113 = .ok (.bipush 20, 2) := by decide +kernel
theorem dX8_feed_115 : decode cX8_feed 115 = .ok (.iadd, 1) := by decide +kernel
theorem dX8_feed_116 : decode cX8_feed 116 = .ok (.putfield 86, 3) := by decide +kernel
theorem dX8_feed_119 : decode cX8_feed 119 = .ok (.aload_n 0, 1) := by decide +kernel
theorem dX8_feed_120 : decode cX8_feed 120 = .ok (.getfield 86, 3) := by decide +kernel
theorem dX8_feed_123 : decode cX8_feed 123 = .ok (.ireturn, 1) := by decide +kernel

theorem dX8_end_0 : decode cX8_end 0 = .ok (.iload_n 1, 1) := by decide +kernel
theorem dX8_end_1 : decode cX8_end 1 = .ok (.ifCond .lt 18, 3) := by decide +kernel
theorem dX8_end_4 : decode cX8_end 4 = .ok (.iload_n 1, 1) := by decide +kernel
theorem dX8_end_5 : decode cX8_end 5 = .ok (.bipush 20, 2) := by decide +kernel
theorem dX8_end_7 : decode cX8_end 7 = .ok (.if_icmp .gt 12, 3) := by decide +kernel
theorem dX8_end_10 : decode cX8_end 10 = .ok (.aload_n 0, 1) := by decide +kernel
theorem dX8_end_11 : decode cX8_end 11 = .ok (.getfield 86, 3) := by decide +kernel
theorem dX8_end_14 : decode cX8_end 14 = .ok (.bipush 20, 2) := by decide +kernel
theorem dX8_end_16 : decode cX8_end 16 = .ok (.if_icmp .ge 5, 3) := by decide +kernel
theorem dX8_end_19 : decode cX8_end 19 = .ok (.iconst (-1), 1) := by decide +kernel
theorem dX8_end_20 : decode cX8_end 20 = .ok (.ireturn, 1) := by decide +kernel
theorem dX8_end_21 : decode cX8_end 21 = .ok (.aload_n 0, 1) := by decide +kernel
theorem dX8_end_22 : decode cX8_end 22 = .ok (.aload_n 0, 1) := by decide +kernel
theorem dX8_end_23 : decode cX8_end 23 = .ok (.getfield 86, 3) := by decide +kernel
theorem dX8_end_26 : decode cX8_end 26 = .ok (.bipush 20, 2) := by decide +kernel
theorem dX8_end_28 : decode cX8_end 28 = .ok (.isub, 1) := by decide +kernel
theorem dX8_end_29 : decode cX8_end 29 = .ok (.iload_n 1, 1) := by decide +kernel
theorem dX8_end_30 : decode cX8_end 30 = .ok (.iadd, 1) := by decide +kernel
theorem dX8_end_31 : decode cX8_end 31 = .ok (.putfield 86, 3) := by decide +kernel
theorem dX8_end_34 : decode cX8_end 34 = .ok (.aload_n 0, 1) := by decide +kernel
theorem dX8_end_35 : decode cX8_end 35 = .ok (.getfield 86, 3) := by decide +kernel
theorem dX8_end_38 : decode cX8_end 38 = .ok (.ireturn, 1) := by decide +kernel

theorem dX8_change_0 : decode cX8_change 0 = .ok (.iload_n 1, 1) := by decide +kernel
theorem dX8_change_1 : decode cX8_change 1 = .ok (.ifCond .lt 22, 3) := by decide +kernel
theorem dX8_change_4 : decode cX8_change 4 = .ok (.iload_n 1, 1) := by decide +kernel
theorem dX8_change_5 : decode cX8_change 5 = .ok (.aload_n 0, 1) := by decide +kernel
theorem dX8_change_6 : decode cX8_change 6 = .ok (.getfield 86, 3) := by decide +kernel
theorem dX8_change_9 : decode cX8_change 9 = .ok (.if_icmp .ge 14, 3) := by decide +kernel
theorem dX8_change_12 : decode cX8_change 12 = .ok (.iload_n 2, 1) := by decide +kernel
theorem dX8_change_13 : decode cX8_change 13 = .ok (.ifCond .lt 10, 3) := by decide +kernel
theorem dX8_change_16 : decode cX8_change 16 = .ok (.iload_n 2, 1) := by decide +kernel
theorem dX8_change_17 : decode cX8_change 17 = .ok (.sipush 255, 3) := by decide +kernel
theorem dX8_change_20 : decode cX8_change 20 = .ok (.if_icmp .le 5, 3) := by decide +kernel
theorem dX8_change_23 : decode cX8_change 23 = .ok (.iconst (-1), 1) := by decide +kernel
theorem dX8_change_24 : decode cX8_change 24 = .ok (.ireturn, 1) := by decide +kernel
theorem dX8_change_25 : decode cX8_change 25 = .ok (.aload_n 0, 1) := by decide +kernel
theorem dX8_change_26 : decode cX8_change 26 = .ok (.getfield 22, 3) := by decide +kernel
theorem dX8_change_29 : decode cX8_change 29 = .ok (.iload_n 1, 1) := by decide +kernel
theorem dX8_change_30 : decode cX8_change 30 = .ok (.iaload, 1) := by decide +kernel
theorem dX8_change_31 : decode cX8_change 31 = .ok (.istore_n 3, 1) := by decide +kernel
theorem dX8_change_32 : decode cX8_change 32 = .ok (.aload_n 0, 1) := by decide +kernel
theorem dX8_change_33 : decode cX8_change 33 = .ok (.getfield 22, 3) := by decide +kernel
theorem dX8_change_36 : decode cX8_change 36 = .ok (.iload_n 1, 1) := by decide +kernel
theorem dX8_change_37 : decode cX8_change 37 = .ok (.iload_n 2, 1) := by decide +kernel
theorem dX8_change_38 : decode cX8_change 38 = .ok (.iastore, 1) := by decide +kernel
theorem dX8_change_39 : decode cX8_change 39 = .ok (.iload_n 3, 1) := by decide +kernel
theorem dX8_change_40 : decode cX8_change 40 = .ok (.ireturn, 1) := by decide +kernel

theorem dX8_fail_0 : decode cX8_fail 0 = .ok (.aload_n 0, 1) := by decide +kernel
theorem dX8_fail_1 : decode cX8_fail 1 = .ok (.getfield 100, 3) := by decide +kernel
theorem dX8_fail_4 : decode cX8_fail 4 = .ok (.ifCond .ne 13, 3) := by decide +kernel
theorem dX8_fail_7 : decode cX8_fail 7 = .ok (.aload_n 0, 1) := by decide +kernel
theorem dX8_fail_8 : decode cX8_fail 8 = .ok (.iload_n 1, 1) := by decide +kernel
theorem dX8_fail_9 : decode cX8_fail 9 = .ok (.putfield 100, 3) := by decide +kernel
theorem dX8_fail_12 : decode cX8_fail 12 = .ok (.aload_n 0, 1) := by decide +kernel
theorem dX8_fail_13 : decode cX8_fail 13 = .ok (.iload_n 2, 1) := by decide +kernel
theorem dX8_fail_14 : decode cX8_fail 14 = .ok (.putfield 25, 3) := by decide +kernel
theorem dX8_fail_17 : decode cX8_fail 17 = .ok (.return_, 1) := by decide +kernel

theorem dX8_skip_0 : decode cX8_skip 0 = .ok (.iconst 1, 1) := by decide +kernel
theorem dX8_skip_1 : decode cX8_skip 1 = .ok (.istore_n 1, 1) := by decide +kernel
theorem dX8_skip_2 : decode cX8_skip 2 = .ok (.iload_n 1, 1) := by decide +kernel
theorem dX8_skip_3 : decode cX8_skip 3 = .ok (.ifCond .eq 148, 3) := by decide +kernel
theorem dX8_skip_6 : decode cX8_skip 6 = .ok (.aload_n 0, 1) := by decide +kernel
theorem dX8_skip_7 : decode cX8_skip 7 = .ok (.aload_n 0, 1) := by decide +kernel
theorem dX8_skip_8 : decode cX8_skip 8 = .ok (.getfield 103, 3) := by decide +kernel
theorem dX8_skip_11 : decode cX8_skip 11 = .ok (.invokevirtual 89, 3) := by decide +kernel
theorem dX8_skip_14 : decode cX8_skip 14 = .ok (.istore_n 2, 1) := by decide +kernel
theorem dX8_skip_15 : decode cX8_skip 15 = .ok (.iload_n 2, 1) := by decide +kernel
theorem dX8_skip_16 : decode cX8_skip 16 = .ok (.bipush 9, 2) := by decide +kernel
theorem dX8_skip_18 : decode cX8_skip 18 = .ok (.if_icmp .eq 21, 3) := by decide +kernel
theorem dX8_skip_21 : decode cX8_skip 21 = .ok (.iload_n 2, 1) := by decide +kernel
theorem dX8_skip_22 : decode cX8_skip 22 = .ok (.bipush 10, 2) := by decide +kernel
theorem dX8_skip_24 : decode cX8_skip 24 = .ok (.if_icmp .eq 15, 3) := by decide +kernel
theorem dX8_skip_27 : decode cX8_skip 27 = .ok (.iload_n 2, 1) := by decide +kernel
theorem dX8_skip_28 : decode cX8_skip 28 = .ok (.bipush 13, 2) := by decide +kernel
theorem dX8_skip_30 : decode cX8_skip 30 = .ok (.if_icmp .eq 9, 3) := by decide +kernel
theorem dX8_skip_33 : decode cX8_skip 33 = .ok (.iload_n 2, 1) := by decide +kernel
theorem dX8_skip_34 : decode cX8_skip 34 = .ok (.bipush 32, 2) := by decide +kernel
theorem dX8_skip_36 : decode cX8_skip 36 = .ok (.if_icmp .ne 16, 3) := by decide +kernel
theorem dX8_skip_39 : decode cX8_skip 39 = .ok (.aload_n 0, 1) := by decide +kernel
theorem dX8_skip_40 : decode cX8_skip 40 = .ok (.dup, 1) := by decide +kernel
theorem dX8_skip_41 : decode cX8_skip 41 = .ok (.getfield 103, 3) := by decide +kernel
theorem dX8_skip_44 : decode cX8_skip 44 = .ok (.iconst 1, 1) := by decide +kernel
theorem dX8_skip_45 : decode cX8_skip 45 = .ok (.iadd, 1) := by decide +kernel
theorem dX8_skip_46 : decode cX8_skip 46 = .ok (.putfield 103, 3) := by decide +kernel
theorem dX8_skip_49 : decode cX8_skip 49 = .ok (.goto 99, 3) := by decide +kernel
theorem dX8_skip_52 : decode cX8_skip 52 = .ok (.iload_n 2, 1) := by decide +kernel
theorem dX8_skip_53 : decode cX8_skip 53 = .ok (.bipush 40, 2) := by decide +kernel
theorem dX8_skip_55 : decode cX8_skip 55 = .ok (.if_icmp .ne 91, 3) := by decide +kernel
theorem dX8_skip_58 : decode cX8_skip 58 = .ok (.aload_n 0, 1) := by decide +kernel
theorem dX8_skip_59 : decode cX8_skip 59 = .ok (.aload_n 0, 1) := by decide +kernel
theorem dX8_skip_60 : decode cX8_skip 60 = .ok (.getfield 103, 3) := by decide +kernel
theorem dX8_skip_63 : decode cX8_skip 63 = .ok (.iconst 1, 1) := by decide +kernel
theorem dX8_skip_64 : decode cX8_skip 64 = .ok (.iadd, 1) := by decide +kernel
theorem dX8_skip_65 : decode cX8_skip 65 = .ok (.invokevirtual 89, 3) := by decide +kernel
theorem dX8_skip_68 : decode cX8_skip 68 = .ok (.bipush 42, 2) := by decide +kernel
theorem dX8_skip_70 : decode cX8_skip 70 = .ok (.if_icmp .ne 76, 3) := by decide +kernel
theorem dX8_skip_73 : decode cX8_skip 73 = .ok (.aload_n 0, 1) := by decide +kernel
theorem dX8_skip_74 : decode cX8_skip 74 = .ok (.getfield 103, 3) := by decide +kernel
theorem dX8_skip_77 : decode cX8_skip 77 = .ok (.iconst 2, 1) := by decide +kernel
theorem dX8_skip_78 : decode cX8_skip 78 = .ok (.iadd, 1) := by decide +kernel
theorem dX8_skip_79 : decode cX8_skip 79 = .ok (.istore_n 3, 1) := by decide +kernel
theorem dX8_skip_80 : decode cX8_skip 80 = .ok (.iload_n 3, 1) := by decide +kernel
theorem dX8_skip_81 : decode cX8_skip 81 = .ok (.aload_n 0, 1) := by decide +kernel
theorem dX8_skip_82 : decode cX8_skip 82 = .ok (.getfield 86, 3) := by decide +kernel
theorem dX8_skip_85 : decode cX8_skip 85 = .ok (.if_icmp .ge 32, 3) := by decide +kernel
theorem dX8_skip_88 : decode cX8_skip 88 = .ok (.aload_n 0, 1) := by decide +kernel
theorem dX8_skip_89 : decode cX8_skip 89 = .ok (.getfield 22, 3) := by decide +kernel
theorem dX8_skip_92 : decode cX8_skip 92 = .ok (.iload_n 3, 1) := by decide +kernel
theorem dX8_skip_93 : decode cX8_skip 93 = .ok (.iaload, 1) := by decide +kernel
theorem dX8_skip_94 : decode cX8_skip 94 = .ok (.bipush 42, 2) := by decide +kernel
theorem dX8_skip_96 : decode cX8_skip 96 = .ok (.if_icmp .ne 15, 3) := by decide +kernel
theorem dX8_skip_99 : decode cX8_skip 99 = .ok (.aload_n 0, 1) := by decide +kernel
theorem dX8_skip_100 : decode cX8_skip 100 = .ok (.iload_n 3, 1) := by decide +kernel
theorem dX8_skip_101 : decode cX8_skip 101 = .ok (.iconst 1, 1) := by decide +kernel
theorem dX8_skip_102 : decode cX8_skip 102 = .ok (.iadd, 1) := by decide +kernel
theorem dX8_skip_103 : decode cX8_skip 103 = .ok (.invokevirtual 89, 3) := by decide +kernel
theorem dX8_skip_106 : decode cX8_skip 106 = .ok (.bipush 41, 2) := by decide +kernel
theorem dX8_skip_108 : decode cX8_skip 108 = .ok (.if_icmp .eq 9, 3) := by decide +kernel
theorem dX8_skip_111 : decode cX8_skip 111 = .ok (.iinc 3 1, 3) := by decide +kernel
theorem dX8_skip_114 : decode cX8_skip 114 = .ok (.goto (-34), 3) := by decide +kernel
theorem dX8_skip_117 : decode cX8_skip 117 = .ok (.iload_n 3, 1) := by decide +kernel
theorem dX8_skip_118 : decode cX8_skip 118 = .ok (.aload_n 0, 1) := by decide +kernel
theorem dX8_skip_119 : decode cX8_skip 119 = .ok (.getfield 86, 3) := by decide +kernel
theorem dX8_skip_122 : decode cX8_skip 122 = .ok (.if_icmp .lt 14, 3) := by decide +kernel
theorem dX8_skip_125 : decode cX8_skip 125 = .ok (.aload_n 0, 1) := by decide +kernel
theorem dX8_skip_126 : decode cX8_skip 126 = .ok (.iconst 2, 1) := by decide +kernel
theorem dX8_skip_127 : decode cX8_skip 127 = .ok (.aload_n 0, 1) := by decide +kernel
theorem dX8_skip_128 : decode cX8_skip 128 = .ok (.getfield 103, 3) := by decide +kernel
theorem dX8_skip_131 : decode cX8_skip 131 = .ok (.invokevirtual 106, 3) := by decide +kernel
theorem dX8_skip_134 : decode cX8_skip 134 = .ok (.iconst 0, 1) := by decide +kernel
theorem dX8_skip_135 : decode cX8_skip 135 = .ok (.istore_n 1, 1) := by decide +kernel
theorem dX8_skip_136 : decode cX8_skip 136 = .ok (.aload_n 0, 1) := by decide +kernel
theorem dX8_skip_137 : decode cX8_skip 137 = .ok (.iload_n 3, 1) := by decide +kernel
theorem dX8_skip_138 : decode cX8_skip 138 = .ok (.iconst 2, 1) := by decide +kernel
theorem dX8_skip_139 : decode cX8_skip 139 = .ok (.iadd, 1) := by decide +kernel
theorem dX8_skip_140 : decode cX8_skip 140 = .ok (.putfield 103, 3) := by decide +kernel
theorem dX8_skip_143 : decode cX8_skip 143 = .ok (.goto 5, 3) := by decide +kernel
theorem dX8_skip_146 : decode cX8_skip 146 = .ok (.iconst 0, 1) := by decide +kernel
theorem dX8_skip_147 : decode cX8_skip 147 = .ok (.istore_n 1, 1) := by decide +kernel
theorem dX8_skip_148 : decode cX8_skip 148 = .ok (.goto (-146), 3) := by decide +kernel
theorem dX8_skip_151 : decode cX8_skip 151 = .ok (.return_, 1) := by decide +kernel

theorem dX8_wordOf_0 : decode cX8_wordOf 0 = .ok (.iconst 0, 1) := by decide +kernel
theorem dX8_wordOf_1 : decode cX8_wordOf 1 = .ok (.istore_n 3, 1) := by decide +kernel
theorem dX8_wordOf_2 : decode cX8_wordOf 2 = .ok (.iload_n 3, 1) := by decide +kernel
theorem dX8_wordOf_3 : decode cX8_wordOf 3 = .ok (.bipush 41, 2) := by decide +kernel
theorem dX8_wordOf_5 : decode cX8_wordOf 5 = .ok (.if_icmp .ge 100, 3) := by decide +kernel
theorem dX8_wordOf_8 : decode cX8_wordOf 8 = .ok (.aload_n 0, 1) := by decide +kernel
theorem dX8_wordOf_9 : decode cX8_wordOf 9 = .ok (.getfield 13, 3) := by decide +kernel
theorem dX8_wordOf_12 : decode cX8_wordOf 12 = .ok (.iload_n 3, 1) := by decide +kernel
theorem dX8_wordOf_13 : decode cX8_wordOf 13 = .ok (.iconst 1, 1) := by decide +kernel
theorem dX8_wordOf_14 : decode cX8_wordOf 14 = .ok (.iadd, 1) := by decide +kernel
theorem dX8_wordOf_15 : decode cX8_wordOf 15 = .ok (.iaload, 1) := by decide +kernel
theorem dX8_wordOf_16 : decode cX8_wordOf 16 = .ok (.aload_n 0, 1) := by decide +kernel
theorem dX8_wordOf_17 : decode cX8_wordOf 17 = .ok (.getfield 13, 3) := by decide +kernel
theorem dX8_wordOf_20 : decode cX8_wordOf 20 = .ok (.iload_n 3, 1) := by decide +kernel
theorem dX8_wordOf_21 : decode cX8_wordOf 21 = .ok (.iaload, 1) := by decide +kernel
theorem dX8_wordOf_22 : decode cX8_wordOf 22 = .ok (.isub, 1) := by decide +kernel
theorem dX8_wordOf_23 : decode cX8_wordOf 23 = .ok (.iconst 1, 1) := by decide +kernel
theorem dX8_wordOf_24 : decode cX8_wordOf 24 = .ok (.isub, 1) := by decide +kernel
theorem dX8_wordOf_25 : decode cX8_wordOf 25 = .ok (.iload_n 2, 1) := by decide +kernel
theorem dX8_wordOf_26 : decode cX8_wordOf 26 = .ok (.if_icmp .ne 7, 3) := by decide +kernel
theorem dX8_wordOf_29 : decode cX8_wordOf 29 = .ok (.iconst 1, 1) := by decide +kernel
theorem dX8_wordOf_30 : decode cX8_wordOf 30 = .ok (.goto 4, 3) := by decide +kernel
theorem dX8_wordOf_33 : decode cX8_wordOf 33 = .ok (.iconst 0, 1) := by decide +kernel
theorem dX8_wordOf_34 : decode cX8_wordOf 34 = .ok (.istore 4, 2) := by decide +kernel
theorem dX8_wordOf_36 : decode cX8_wordOf 36 = .ok (.iconst 0, 1) := by decide +kernel
theorem dX8_wordOf_37 : decode cX8_wordOf 37 = .ok (.istore 5, 2) := by decide +kernel
theorem dX8_wordOf_39 : decode cX8_wordOf 39 = .ok (.iload 5, 2) := by decide +kernel
theorem dX8_wordOf_41 : decode cX8_wordOf 41 = .ok (.iload_n 2, 1) := by decide +kernel
theorem dX8_wordOf_42 : decode cX8_wordOf 42 = .ok (.if_icmp .ge 50, 3) := by decide +kernel
theorem dX8_wordOf_45 : decode cX8_wordOf 45 = .ok (.iload 4, 2) := by decide +kernel
theorem dX8_wordOf_47 : decode cX8_wordOf 47 = .ok (.ifCond .eq 45, 3) := by decide +kernel
theorem dX8_wordOf_50 : decode cX8_wordOf 50 = .ok (.aload_n 0, 1) := by decide +kernel
theorem dX8_wordOf_51 : decode cX8_wordOf 51 = .ok (.getfield 7, 3) := by decide +kernel
theorem dX8_wordOf_54 : decode cX8_wordOf 54 = .ok (.aload_n 0, 1) := by decide +kernel
theorem dX8_wordOf_55 : decode cX8_wordOf 55 = .ok (.getfield 13, 3) := by decide +kernel
theorem dX8_wordOf_58 : decode cX8_wordOf 58 = .ok (.iload_n 3, 1) := by decide +kernel
theorem dX8_wordOf_59 : decode cX8_wordOf 59 = .ok (.iaload, 1) := by decide +kernel
theorem dX8_wordOf_60 : decode cX8_wordOf 60 = .ok (.iload 5, 2) := by decide +kernel
theorem dX8_wordOf_62 : decode cX8_wordOf 62 = .ok (.iadd, 1) := by decide +kernel
theorem dX8_wordOf_63 : decode cX8_wordOf 63 = .ok (.iaload, 1) := by decide +kernel
theorem dX8_wordOf_64 : decode cX8_wordOf 64 = .ok (.aload_n 0, 1) := by decide +kernel
theorem dX8_wordOf_65 : decode cX8_wordOf 65 = .ok (.getfield 22, 3) := by decide +kernel
theorem dX8_wordOf_68 : decode cX8_wordOf 68 = .ok (.iload_n 1, 1) := by decide +kernel
theorem dX8_wordOf_69 : decode cX8_wordOf 69 = .ok (.iload 5, 2) := by decide +kernel
theorem dX8_wordOf_71 : decode cX8_wordOf 71 = .ok (.iadd, 1) := by decide +kernel
theorem dX8_wordOf_72 : decode cX8_wordOf 72 = .ok (.iaload, 1) := by decide +kernel
theorem dX8_wordOf_73 : decode cX8_wordOf 73 = .ok (.invokestatic 110, 3) := by decide +kernel
theorem dX8_wordOf_76 : decode cX8_wordOf 76 = .ok (.if_icmp .ne 7, 3) := by decide +kernel
theorem dX8_wordOf_79 : decode cX8_wordOf 79 = .ok (.iconst 1, 1) := by decide +kernel
theorem dX8_wordOf_80 : decode cX8_wordOf 80 = .ok (.goto 4, 3) := by decide +kernel
theorem dX8_wordOf_83 : decode cX8_wordOf 83 = .ok (.iconst 0, 1) := by decide +kernel
theorem dX8_wordOf_84 : decode cX8_wordOf 84 = .ok (.istore 4, 2) := by decide +kernel
theorem dX8_wordOf_86 : decode cX8_wordOf 86 = .ok (.iinc 5 1, 3) := by decide +kernel
theorem dX8_wordOf_89 : decode cX8_wordOf 89 = .ok (.goto (-50), 3) := by decide +kernel
theorem dX8_wordOf_92 : decode cX8_wordOf 92 = .ok (.iload 4, 2) := by decide +kernel
theorem dX8_wordOf_94 : decode cX8_wordOf 94 = .ok (.ifCond .eq 5, 3) := by decide +kernel
theorem dX8_wordOf_97 : decode cX8_wordOf 97 = .ok (.iload_n 3, 1) := by decide +kernel
theorem dX8_wordOf_98 : decode cX8_wordOf 98 = .ok (.ireturn, 1) := by decide +kernel
theorem dX8_wordOf_99 : decode cX8_wordOf 99 = .ok (.iinc 3 1, 3) := by decide +kernel
theorem dX8_wordOf_102 : decode cX8_wordOf 102 = .ok (.goto (-100), 3) := by decide +kernel
theorem dX8_wordOf_105 : decode cX8_wordOf 105 = .ok (.iconst (-1), 1) := by decide +kernel
theorem dX8_wordOf_106 : decode cX8_wordOf 106 = .ok (.ireturn, 1) := by decide +kernel

theorem dX8_nameOf_0 : decode cX8_nameOf 0 = .ok (.iconst 0, 1) := by decide +kernel
theorem dX8_nameOf_1 : decode cX8_nameOf 1 = .ok (.istore_n 3, 1) := by decide +kernel
theorem dX8_nameOf_2 : decode cX8_nameOf 2 = .ok (.iload_n 3, 1) := by decide +kernel
theorem dX8_nameOf_3 : decode cX8_nameOf 3 = .ok (.aload_n 0, 1) := by decide +kernel
theorem dX8_nameOf_4 : decode cX8_nameOf 4 = .ok (.getfield 113, 3) := by decide +kernel
theorem dX8_nameOf_7 : decode cX8_nameOf 7 = .ok (.if_icmp .ge 98, 3) := by decide +kernel
theorem dX8_nameOf_10 : decode cX8_nameOf 10 = .ok (.aload_n 0, 1) := by decide +kernel
theorem dX8_nameOf_11 : decode cX8_nameOf 11 = .ok (.getfield 29, 3) := by decide +kernel
theorem dX8_nameOf_14 : decode cX8_nameOf 14 = .ok (.iload_n 3, 1) := by decide +kernel
theorem dX8_nameOf_15 : decode cX8_nameOf 15 = .ok (.iconst 1, 1) := by decide +kernel
theorem dX8_nameOf_16 : decode cX8_nameOf 16 = .ok (.iadd, 1) := by decide +kernel
theorem dX8_nameOf_17 : decode cX8_nameOf 17 = .ok (.iaload, 1) := by decide +kernel
theorem dX8_nameOf_18 : decode cX8_nameOf 18 = .ok (.aload_n 0, 1) := by decide +kernel
theorem dX8_nameOf_19 : decode cX8_nameOf 19 = .ok (.getfield 29, 3) := by decide +kernel
theorem dX8_nameOf_22 : decode cX8_nameOf 22 = .ok (.iload_n 3, 1) := by decide +kernel
theorem dX8_nameOf_23 : decode cX8_nameOf 23 = .ok (.iaload, 1) := by decide +kernel
theorem dX8_nameOf_24 : decode cX8_nameOf 24 = .ok (.isub, 1) := by decide +kernel
theorem dX8_nameOf_25 : decode cX8_nameOf 25 = .ok (.iload_n 2, 1) := by decide +kernel
theorem dX8_nameOf_26 : decode cX8_nameOf 26 = .ok (.if_icmp .ne 7, 3) := by decide +kernel
theorem dX8_nameOf_29 : decode cX8_nameOf 29 = .ok (.iconst 1, 1) := by decide +kernel
theorem dX8_nameOf_30 : decode cX8_nameOf 30 = .ok (.goto 4, 3) := by decide +kernel
theorem dX8_nameOf_33 : decode cX8_nameOf 33 = .ok (.iconst 0, 1) := by decide +kernel
theorem dX8_nameOf_34 : decode cX8_nameOf 34 = .ok (.istore 4, 2) := by decide +kernel
theorem dX8_nameOf_36 : decode cX8_nameOf 36 = .ok (.iconst 0, 1) := by decide +kernel
theorem dX8_nameOf_37 : decode cX8_nameOf 37 = .ok (.istore 5, 2) := by decide +kernel
theorem dX8_nameOf_39 : decode cX8_nameOf 39 = .ok (.iload 5, 2) := by decide +kernel
theorem dX8_nameOf_41 : decode cX8_nameOf 41 = .ok (.iload_n 2, 1) := by decide +kernel
theorem dX8_nameOf_42 : decode cX8_nameOf 42 = .ok (.if_icmp .ge 50, 3) := by decide +kernel
theorem dX8_nameOf_45 : decode cX8_nameOf 45 = .ok (.iload 4, 2) := by decide +kernel
theorem dX8_nameOf_47 : decode cX8_nameOf 47 = .ok (.ifCond .eq 45, 3) := by decide +kernel
theorem dX8_nameOf_50 : decode cX8_nameOf 50 = .ok (.aload_n 0, 1) := by decide +kernel
theorem dX8_nameOf_51 : decode cX8_nameOf 51 = .ok (.getfield 32, 3) := by decide +kernel
theorem dX8_nameOf_54 : decode cX8_nameOf 54 = .ok (.aload_n 0, 1) := by decide +kernel
theorem dX8_nameOf_55 : decode cX8_nameOf 55 = .ok (.getfield 29, 3) := by decide +kernel
theorem dX8_nameOf_58 : decode cX8_nameOf 58 = .ok (.iload_n 3, 1) := by decide +kernel
theorem dX8_nameOf_59 : decode cX8_nameOf 59 = .ok (.iaload, 1) := by decide +kernel
theorem dX8_nameOf_60 : decode cX8_nameOf 60 = .ok (.iload 5, 2) := by decide +kernel
theorem dX8_nameOf_62 : decode cX8_nameOf 62 = .ok (.iadd, 1) := by decide +kernel
theorem dX8_nameOf_63 : decode cX8_nameOf 63 = .ok (.iaload, 1) := by decide +kernel
theorem dX8_nameOf_64 : decode cX8_nameOf 64 = .ok (.aload_n 0, 1) := by decide +kernel
theorem dX8_nameOf_65 : decode cX8_nameOf 65 = .ok (.getfield 22, 3) := by decide +kernel
theorem dX8_nameOf_68 : decode cX8_nameOf 68 = .ok (.iload_n 1, 1) := by decide +kernel
theorem dX8_nameOf_69 : decode cX8_nameOf 69 = .ok (.iload 5, 2) := by decide +kernel
theorem dX8_nameOf_71 : decode cX8_nameOf 71 = .ok (.iadd, 1) := by decide +kernel
theorem dX8_nameOf_72 : decode cX8_nameOf 72 = .ok (.iaload, 1) := by decide +kernel
theorem dX8_nameOf_73 : decode cX8_nameOf 73 = .ok (.invokestatic 110, 3) := by decide +kernel
theorem dX8_nameOf_76 : decode cX8_nameOf 76 = .ok (.if_icmp .ne 7, 3) := by decide +kernel
theorem dX8_nameOf_79 : decode cX8_nameOf 79 = .ok (.iconst 1, 1) := by decide +kernel
theorem dX8_nameOf_80 : decode cX8_nameOf 80 = .ok (.goto 4, 3) := by decide +kernel
theorem dX8_nameOf_83 : decode cX8_nameOf 83 = .ok (.iconst 0, 1) := by decide +kernel
theorem dX8_nameOf_84 : decode cX8_nameOf 84 = .ok (.istore 4, 2) := by decide +kernel
theorem dX8_nameOf_86 : decode cX8_nameOf 86 = .ok (.iinc 5 1, 3) := by decide +kernel
theorem dX8_nameOf_89 : decode cX8_nameOf 89 = .ok (.goto (-50), 3) := by decide +kernel
theorem dX8_nameOf_92 : decode cX8_nameOf 92 = .ok (.iload 4, 2) := by decide +kernel
theorem dX8_nameOf_94 : decode cX8_nameOf 94 = .ok (.ifCond .eq 5, 3) := by decide +kernel
theorem dX8_nameOf_97 : decode cX8_nameOf 97 = .ok (.iload_n 3, 1) := by decide +kernel
theorem dX8_nameOf_98 : decode cX8_nameOf 98 = .ok (.ireturn, 1) := by decide +kernel
theorem dX8_nameOf_99 : decode cX8_nameOf 99 = .ok (.iinc 3 1, 3) := by decide +kernel
theorem dX8_nameOf_102 : decode cX8_nameOf 102 = .ok (.goto (-100), 3) := by decide +kernel
theorem dX8_nameOf_105 : decode cX8_nameOf 105 = .ok (.iconst 0, 1) := by decide +kernel
theorem dX8_nameOf_106 : decode cX8_nameOf 106 = .ok (.istore_n 3, 1) := by decide +kernel
theorem dX8_nameOf_107 : decode cX8_nameOf 107 = .ok (.iload_n 3, 1) := by decide +kernel
theorem dX8_nameOf_108 : decode cX8_nameOf 108 = .ok (.iload_n 2, 1) := by decide +kernel
theorem dX8_nameOf_109 : decode cX8_nameOf 109 = .ok (.if_icmp .ge 36, 3) := by decide +kernel
theorem dX8_nameOf_112 : decode cX8_nameOf 112 = .ok (.aload_n 0, 1) := by decide +kernel
theorem dX8_nameOf_113 : decode cX8_nameOf 113 = .ok (.getfield 32, 3) := by decide +kernel
theorem dX8_nameOf_116 : decode cX8_nameOf 116 = .ok (.aload_n 0, 1) := by decide +kernel
theorem dX8_nameOf_117 : decode cX8_nameOf 117 = .ok (.getfield 29, 3) := by decide +kernel
theorem dX8_nameOf_120 : decode cX8_nameOf 120 = .ok (.aload_n 0, 1) := by decide +kernel
theorem dX8_nameOf_121 : decode cX8_nameOf 121 = .ok (.getfield 113, 3) := by decide +kernel
theorem dX8_nameOf_124 : decode cX8_nameOf 124 = .ok (.iaload, 1) := by decide +kernel
theorem dX8_nameOf_125 : decode cX8_nameOf 125 = .ok (.iload_n 3, 1) := by decide +kernel
theorem dX8_nameOf_126 : decode cX8_nameOf 126 = .ok (.iadd, 1) := by decide +kernel
theorem dX8_nameOf_127 : decode cX8_nameOf 127 = .ok (.aload_n 0, 1) := by decide +kernel
theorem dX8_nameOf_128 : decode cX8_nameOf 128 = .ok (.getfield 22, 3) := by decide +kernel
theorem dX8_nameOf_131 : decode cX8_nameOf 131 = .ok (.iload_n 1, 1) := by decide +kernel
theorem dX8_nameOf_132 : decode cX8_nameOf 132 = .ok (.iload_n 3, 1) := by decide +kernel
theorem dX8_nameOf_133 : decode cX8_nameOf 133 = .ok (.iadd, 1) := by decide +kernel
theorem dX8_nameOf_134 : decode cX8_nameOf 134 = .ok (.iaload, 1) := by decide +kernel
theorem dX8_nameOf_135 : decode cX8_nameOf 135 = .ok (.invokestatic 110, 3) := by decide +kernel
theorem dX8_nameOf_138 : decode cX8_nameOf 138 = .ok (.iastore, 1) := by decide +kernel
theorem dX8_nameOf_139 : decode cX8_nameOf 139 = .ok (.iinc 3 1, 3) := by decide +kernel
theorem dX8_nameOf_142 : decode cX8_nameOf 142 = .ok (.goto (-35), 3) := by decide +kernel
theorem dX8_nameOf_145 : decode cX8_nameOf 145 = .ok (.aload_n 0, 1) := by decide +kernel
theorem dX8_nameOf_146 : decode cX8_nameOf 146 = .ok (.getfield 29, 3) := by decide +kernel
theorem dX8_nameOf_149 : decode cX8_nameOf 149 = .ok (.aload_n 0, 1) := by decide +kernel
theorem dX8_nameOf_150 : decode cX8_nameOf 150 = .ok (.getfield 113, 3) := by decide +kernel
theorem dX8_nameOf_153 : decode cX8_nameOf 153 = .ok (.iconst 1, 1) := by decide +kernel
theorem dX8_nameOf_154 : decode cX8_nameOf 154 = .ok (.iadd, 1) := by decide +kernel
theorem dX8_nameOf_155 : decode cX8_nameOf 155 = .ok (.aload_n 0, 1) := by decide +kernel
theorem dX8_nameOf_156 : decode cX8_nameOf 156 = .ok (.getfield 29, 3) := by decide +kernel
theorem dX8_nameOf_159 : decode cX8_nameOf 159 = .ok (.aload_n 0, 1) := by decide +kernel
theorem dX8_nameOf_160 : decode cX8_nameOf 160 = .ok (.getfield 113, 3) := by decide +kernel
theorem dX8_nameOf_163 : decode cX8_nameOf 163 = .ok (.iaload, 1) := by decide +kernel
theorem dX8_nameOf_164 : decode cX8_nameOf 164 = .ok (.iload_n 2, 1) := by decide +kernel
theorem dX8_nameOf_165 : decode cX8_nameOf 165 = .ok (.iadd, 1) := by decide +kernel
theorem dX8_nameOf_166 : decode cX8_nameOf 166 = .ok (.iastore, 1) := by decide +kernel
theorem dX8_nameOf_167 : decode cX8_nameOf 167 = .ok (.aload_n 0, 1) := by decide +kernel
theorem dX8_nameOf_168 : decode cX8_nameOf 168 = .ok (.dup, 1) := by decide +kernel
theorem dX8_nameOf_169 : decode cX8_nameOf 169 = .ok (.getfield 113, 3) := by decide +kernel
theorem dX8_nameOf_172 : decode cX8_nameOf 172 = .ok (.iconst 1, 1) := by decide +kernel
theorem dX8_nameOf_173 : decode cX8_nameOf 173 = .ok (.iadd, 1) := by decide +kernel
theorem dX8_nameOf_174 : decode cX8_nameOf 174 = .ok (.putfield 113, 3) := by decide +kernel
theorem dX8_nameOf_177 : decode cX8_nameOf 177 = .ok (.aload_n 0, 1) := by decide +kernel
theorem dX8_nameOf_178 : decode cX8_nameOf 178 = .ok (.getfield 113, 3) := by decide +kernel
theorem dX8_nameOf_181 : decode cX8_nameOf 181 = .ok (.iconst 1, 1) := by decide +kernel
theorem dX8_nameOf_182 : decode cX8_nameOf 182 = .ok (.isub, 1) := by decide +kernel
theorem dX8_nameOf_183 : decode cX8_nameOf 183 = .ok (.ireturn, 1) := by decide +kernel

theorem dX8_readName_0 : decode cX8_readName 0 = .ok (.aload_n 0, 1) := by decide +kernel
theorem dX8_readName_1 : decode cX8_readName 1 = .ok (.aload_n 0, 1) := by decide +kernel
theorem dX8_readName_2 : decode cX8_readName 2 = .ok (.getfield 103, 3) := by decide +kernel
theorem dX8_readName_5 : decode cX8_readName 5 = .ok (.invokevirtual 116, 3) := by decide +kernel
theorem dX8_readName_8 : decode cX8_readName 8 = .ok (.ifCond .eq 16, 3) := by decide +kernel
theorem dX8_readName_11 : decode cX8_readName 11 = .ok (.aload_n 0, 1) := by decide +kernel
theorem dX8_readName_12 : decode cX8_readName 12 = .ok (.dup, 1) := by decide +kernel
theorem dX8_readName_13 : decode cX8_readName 13 = .ok (.getfield 103, 3) := by decide +kernel
theorem dX8_readName_16 : decode cX8_readName 16 = .ok (.iconst 1, 1) := by decide +kernel
theorem dX8_readName_17 : decode cX8_readName 17 = .ok (.iadd, 1) := by decide +kernel
theorem dX8_readName_18 : decode cX8_readName 18 = .ok (.putfield 103, 3) := by decide +kernel
theorem dX8_readName_21 : decode cX8_readName 21 = .ok (.goto (-21), 3) := by decide +kernel
theorem dX8_readName_24 : decode cX8_readName 24 = .ok (.aload_n 0, 1) := by decide +kernel
theorem dX8_readName_25 : decode cX8_readName 25 = .ok (.getfield 103, 3) := by decide +kernel
theorem dX8_readName_28 : decode cX8_readName 28 = .ok (.aload_n 0, 1) := by decide +kernel
theorem dX8_readName_29 : decode cX8_readName 29 = .ok (.getfield 119, 3) := by decide +kernel
theorem dX8_readName_32 : decode cX8_readName 32 = .ok (.isub, 1) := by decide +kernel
theorem dX8_readName_33 : decode cX8_readName 33 = .ok (.istore_n 1, 1) := by decide +kernel
theorem dX8_readName_34 : decode cX8_readName 34 = .ok (.iload_n 1, 1) := by decide +kernel
theorem dX8_readName_35 : decode cX8_readName 35 = .ok (.bipush 32, 2) := by decide +kernel
theorem dX8_readName_37 : decode cX8_readName 37 = .ok (.if_icmp .le 13, 3) := by decide +kernel
theorem dX8_readName_40 : decode cX8_readName 40 = .ok (.aload_n 0, 1) := by decide +kernel
theorem dX8_readName_41 : decode cX8_readName 41 = .ok (.iconst 3, 1) := by decide +kernel
theorem dX8_readName_42 : decode cX8_readName 42 = .ok (.aload_n 0, 1) := by decide +kernel
theorem dX8_readName_43 : decode cX8_readName 43 = .ok (.getfield 119, 3) := by decide +kernel
theorem dX8_readName_46 : decode cX8_readName 46 = .ok (.invokevirtual 106, 3) := by decide +kernel
theorem dX8_readName_49 : decode cX8_readName 49 = .ok (.return_, 1) := by decide +kernel
theorem dX8_readName_50 : decode cX8_readName 50 = .ok (.aload_n 0, 1) := by decide +kernel
theorem dX8_readName_51 : decode cX8_readName 51 = .ok (.aload_n 0, 1) := by decide +kernel
theorem dX8_readName_52 : decode cX8_readName 52 = .ok (.getfield 119, 3) := by decide +kernel
theorem dX8_readName_55 : decode cX8_readName 55 = .ok (.iload_n 1, 1) := by decide +kernel
theorem dX8_readName_56 : decode cX8_readName 56 = .ok (.invokevirtual 122, 3) := by decide +kernel
theorem dX8_readName_59 : decode cX8_readName 59 = .ok (.istore_n 2, 1) := by decide +kernel
theorem dX8_readName_60 : decode cX8_readName 60 = .ok (.aload_n 0, 1) := by decide +kernel
theorem dX8_readName_61 : decode cX8_readName 61 = .ok (.iload_n 2, 1) := by decide +kernel
theorem dX8_readName_62 : decode cX8_readName 62 = .ok (.ifCond .lt 7, 3) := by decide +kernel
theorem dX8_readName_65 : decode cX8_readName 65 = .ok (.iload_n 2, 1) := by decide +kernel
theorem dX8_readName_66 : decode cX8_readName 66 = .ok (.goto 5, 3) := by decide +kernel
theorem dX8_readName_69 : decode cX8_readName 69 = .ok (.bipush 80, 2) := by decide +kernel
theorem dX8_readName_71 : decode cX8_readName 71 = .ok (.putfield 126, 3) := by decide +kernel
theorem dX8_readName_74 : decode cX8_readName 74 = .ok (.aload_n 0, 1) := by decide +kernel
theorem dX8_readName_75 : decode cX8_readName 75 = .ok (.iload_n 2, 1) := by decide +kernel
theorem dX8_readName_76 : decode cX8_readName 76 = .ok (.ifCond .lt 7, 3) := by decide +kernel
theorem dX8_readName_79 : decode cX8_readName 79 = .ok (.iconst 0, 1) := by decide +kernel
theorem dX8_readName_80 : decode cX8_readName 80 = .ok (.goto 12, 3) := by decide +kernel
theorem dX8_readName_83 : decode cX8_readName 83 = .ok (.aload_n 0, 1) := by decide +kernel
theorem dX8_readName_84 : decode cX8_readName 84 = .ok (.aload_n 0, 1) := by decide +kernel
theorem dX8_readName_85 : decode cX8_readName 85 = .ok (.getfield 119, 3) := by decide +kernel
theorem dX8_readName_88 : decode cX8_readName 88 = .ok (.iload_n 1, 1) := by decide +kernel
theorem dX8_readName_89 : decode cX8_readName 89 = .ok (.invokevirtual 129, 3) := by decide +kernel
theorem dX8_readName_92 : decode cX8_readName 92 = .ok (.putfield 132, 3) := by decide +kernel
theorem dX8_readName_95 : decode cX8_readName 95 = .ok (.return_, 1) := by decide +kernel

theorem dX8_digitOf_0 : decode cX8_digitOf 0 = .ok (.iload_n 0, 1) := by decide +kernel
theorem dX8_digitOf_1 : decode cX8_digitOf 1 = .ok (.invokestatic 110, 3) := by decide +kernel
theorem dX8_digitOf_4 : decode cX8_digitOf 4 = .ok (.istore_n 1, 1) := by decide +kernel
theorem dX8_digitOf_5 : decode cX8_digitOf 5 = .ok (.iload_n 0, 1) := by decide +kernel
theorem dX8_digitOf_6 : decode cX8_digitOf 6 = .ok (.invokestatic 97, 3) := by decide +kernel
theorem dX8_digitOf_9 : decode cX8_digitOf 9 = .ok (.ifCond .eq 10, 3) := by decide +kernel
theorem dX8_digitOf_12 : decode cX8_digitOf 12 = .ok (.iload_n 0, 1) := by decide +kernel
theorem dX8_digitOf_13 : decode cX8_digitOf 13 = .ok (.bipush 48, 2) := by decide +kernel
theorem dX8_digitOf_15 : decode cX8_digitOf 15 = .ok (.isub, 1) := by decide +kernel
theorem dX8_digitOf_16 : decode cX8_digitOf 16 = .ok (.goto 27, 3) := by decide +kernel
theorem dX8_digitOf_19 : decode cX8_digitOf 19 = .ok (.iload_n 1, 1) := by decide +kernel
theorem dX8_digitOf_20 : decode cX8_digitOf 20 = .ok (.bipush 65, 2) := by decide +kernel
theorem dX8_digitOf_22 : decode cX8_digitOf 22 = .ok (.if_icmp .lt 19, 3) := by decide +kernel
theorem dX8_digitOf_25 : decode cX8_digitOf 25 = .ok (.iload_n 1, 1) := by decide +kernel
theorem dX8_digitOf_26 : decode cX8_digitOf 26 = .ok (.bipush 70, 2) := by decide +kernel
theorem dX8_digitOf_28 : decode cX8_digitOf 28 = .ok (.if_icmp .gt 13, 3) := by decide +kernel
theorem dX8_digitOf_31 : decode cX8_digitOf 31 = .ok (.iload_n 1, 1) := by decide +kernel
theorem dX8_digitOf_32 : decode cX8_digitOf 32 = .ok (.bipush 65, 2) := by decide +kernel
theorem dX8_digitOf_34 : decode cX8_digitOf 34 = .ok (.isub, 1) := by decide +kernel
theorem dX8_digitOf_35 : decode cX8_digitOf 35 = .ok (.bipush 10, 2) := by decide +kernel
theorem dX8_digitOf_37 : decode cX8_digitOf 37 = .ok (.iadd, 1) := by decide +kernel
theorem dX8_digitOf_38 : decode cX8_digitOf 38 = .ok (.goto 5, 3) := by decide +kernel
theorem dX8_digitOf_41 : decode cX8_digitOf 41 = .ok (.bipush 99, 2) := by decide +kernel
theorem dX8_digitOf_43 : decode cX8_digitOf 43 = .ok (.ireturn, 1) := by decide +kernel

theorem dX8_digits_0 : decode cX8_digits 0 = .ok (.lconst 0, 1) := by decide +kernel
theorem dX8_digits_1 : decode cX8_digits 1 = .ok (.lstore_n 2, 1) := by decide +kernel
theorem dX8_digits_2 : decode cX8_digits 2 = .ok (.aload_n 0, 1) := by decide +kernel
theorem dX8_digits_3 : decode cX8_digits 3 = .ok (.getfield 103, 3) := by decide +kernel
theorem dX8_digits_6 : decode cX8_digits 6 = .ok (.istore 4, 2) := by decide +kernel
theorem dX8_digits_8 : decode cX8_digits 8 = .ok (.aload_n 0, 1) := by decide +kernel
theorem dX8_digits_9 : decode cX8_digits 9 = .ok (.getfield 103, 3) := by decide +kernel
theorem dX8_digits_12 : decode cX8_digits 12 = .ok (.aload_n 0, 1) := by decide +kernel
theorem dX8_digits_13 : decode cX8_digits 13 = .ok (.getfield 86, 3) := by decide +kernel
theorem dX8_digits_16 : decode cX8_digits 16 = .ok (.if_icmp .ge 67, 3) := by decide +kernel
theorem dX8_digits_19 : decode cX8_digits 19 = .ok (.aload_n 0, 1) := by decide +kernel
theorem dX8_digits_20 : decode cX8_digits 20 = .ok (.getfield 22, 3) := by decide +kernel
theorem dX8_digits_23 : decode cX8_digits 23 = .ok (.aload_n 0, 1) := by decide +kernel
theorem dX8_digits_24 : decode cX8_digits 24 = .ok (.getfield 103, 3) := by decide +kernel
theorem dX8_digits_27 : decode cX8_digits 27 = .ok (.iaload, 1) := by decide +kernel
theorem dX8_digits_28 : decode cX8_digits 28 = .ok (.invokestatic 135, 3) := by decide +kernel
theorem dX8_digits_31 : decode cX8_digits 31 = .ok (.iload_n 1, 1) := by decide +kernel
theorem dX8_digits_32 : decode cX8_digits 32 = .ok (.if_icmp .ge 51, 3) := by decide +kernel
theorem dX8_digits_35 : decode cX8_digits 35 = .ok (.lload_n 2, 1) := by decide +kernel
theorem dX8_digits_36 : decode cX8_digits 36 = .ok (.iload_n 1, 1) := by decide +kernel
theorem dX8_digits_37 : decode cX8_digits 37 = .ok (.i2l, 1) := by decide +kernel
theorem dX8_digits_38 : decode cX8_digits 38 = .ok (.lmul, 1) := by decide +kernel
theorem dX8_digits_39 : decode cX8_digits 39 = .ok (.aload_n 0, 1) := by decide +kernel
theorem dX8_digits_40 : decode cX8_digits 40 = .ok (.getfield 22, 3) := by decide +kernel
theorem dX8_digits_43 : decode cX8_digits 43 = .ok (.aload_n 0, 1) := by decide +kernel
theorem dX8_digits_44 : decode cX8_digits 44 = .ok (.getfield 103, 3) := by decide +kernel
theorem dX8_digits_47 : decode cX8_digits 47 = .ok (.iaload, 1) := by decide +kernel
theorem dX8_digits_48 : decode cX8_digits 48 = .ok (.invokestatic 135, 3) := by decide +kernel
theorem dX8_digits_51 : decode cX8_digits 51 = .ok (.i2l, 1) := by decide +kernel
theorem dX8_digits_52 : decode cX8_digits 52 = .ok (.ladd, 1) := by decide +kernel
theorem dX8_digits_53 : decode cX8_digits 53 = .ok (.lstore_n 2, 1) := by decide +kernel
theorem dX8_digits_54 : decode cX8_digits 54 = .ok (.lload_n 2, 1) := by decide +kernel
theorem dX8_digits_55 : decode cX8_digits 55 = .ok (.ldc2_w 138, 3) := by decide +kernel
theorem dX8_digits_58 : decode cX8_digits 58 = .ok (.lcmp, 1) := by decide +kernel
theorem dX8_digits_59 : decode cX8_digits 59 = .ok (.ifCond .le 9, 3) := by decide +kernel
theorem dX8_digits_62 : decode cX8_digits 62 = .ok (.ldc2_w 138, 3) := by decide +kernel
theorem dX8_digits_65 : decode cX8_digits 65 = .ok (.goto 4, 3) := by decide +kernel
theorem dX8_digits_68 : decode cX8_digits 68 = .ok (.lload_n 2, 1) := by decide +kernel
theorem dX8_digits_69 : decode cX8_digits 69 = .ok (.lstore_n 2, 1) := by decide +kernel
theorem dX8_digits_70 : decode cX8_digits 70 = .ok (.aload_n 0, 1) := by decide +kernel
theorem dX8_digits_71 : decode cX8_digits 71 = .ok (.dup, 1) := by decide +kernel
theorem dX8_digits_72 : decode cX8_digits 72 = .ok (.getfield 103, 3) := by decide +kernel
theorem dX8_digits_75 : decode cX8_digits 75 = .ok (.iconst 1, 1) := by decide +kernel
theorem dX8_digits_76 : decode cX8_digits 76 = .ok (.iadd, 1) := by decide +kernel
theorem dX8_digits_77 : decode cX8_digits 77 = .ok (.putfield 103, 3) := by decide +kernel
theorem dX8_digits_80 : decode cX8_digits 80 = .ok (.goto (-72), 3) := by decide +kernel
theorem dX8_digits_83 : decode cX8_digits 83 = .ok (.aload_n 0, 1) := by decide +kernel
theorem dX8_digits_84 : decode cX8_digits 84 = .ok (.getfield 103, 3) := by decide +kernel
theorem dX8_digits_87 : decode cX8_digits 87 = .ok (.iload 4, 2) := by decide +kernel
theorem dX8_digits_89 : decode cX8_digits 89 = .ok (.if_icmp .ne 9, 3) := by decide +kernel
theorem dX8_digits_92 : decode cX8_digits 92 = .ok (.ldc2_w 140, 3) := by decide +kernel
theorem dX8_digits_95 : decode cX8_digits 95 = .ok (.goto 4, 3) := by decide +kernel
theorem dX8_digits_98 : decode cX8_digits 98 = .ok (.lload_n 2, 1) := by decide +kernel
theorem dX8_digits_99 : decode cX8_digits 99 = .ok (.lreturn, 1) := by decide +kernel
