theorem dX6_clear_0 : decode cX6_clear 0 = .ok (.aload_n 0, 1) := by decide +kernel
theorem dX6_clear_1 : decode cX6_clear 1 = .ok (.getfield 14, 3) := by decide +kernel
theorem dX6_clear_4 : decode cX6_clear 4 = .ok (.getfield 62, 3) := by decide +kernel
theorem dX6_clear_7 : decode cX6_clear 7 = .ok (.istore_n 1, 1) := by decide +kernel
theorem dX6_clear_8 : decode cX6_clear 8 = .ok (.aload_n 0, 1) := by decide +kernel
theorem dX6_clear_9 : decode cX6_clear 9 = .ok (.getfield 14, 3) := by decide +kernel
theorem dX6_clear_12 : decode cX6_clear 12 = .ok (.iconst 0, 1) := by decide +kernel
theorem dX6_clear_13 : decode cX6_clear 13 = .ok (.invokevirtual 66, 3) := by decide +kernel
theorem dX6_clear_16 : decode cX6_clear 16 = .ok (.iload_n 1, 1) := by decide +kernel
theorem dX6_clear_17 : decode cX6_clear 17 = .ok (.ireturn, 1) := by decide +kernel

theorem dX6_feedNumber_0 : decode cX6_feedNumber 0 = .ok (.bipush 24, 2) := by decide +kernel
theorem dX6_feedNumber_2 : decode cX6_feedNumber 2 = .ok (.istore_n 2, 1) := by decide +kernel
theorem dX6_feedNumber_3 : decode cX6_feedNumber 3 = .ok (.iload_n 2, 1) := by decide +kernel
theorem dX6_feedNumber_4 : decode cX6_feedNumber 4 = .ok (.ifCond .lt 23, 3) := by decide +kernel
theorem dX6_feedNumber_7 : decode cX6_feedNumber 7 = .ok (.aload_n 0, 1) := by decide +kernel
theorem dX6_feedNumber_8 : decode cX6_feedNumber 8 = .ok (.getfield 14, 3) := by decide +kernel
theorem dX6_feedNumber_11 : decode cX6_feedNumber 11 = .ok (.iload_n 1, 1) := by decide +kernel
theorem dX6_feedNumber_12 : decode cX6_feedNumber 12 = .ok (.iload_n 2, 1) := by decide +kernel
theorem dX6_feedNumber_13 : decode cX6_feedNumber 13 = .ok (.iushr, 1) := by decide +kernel
theorem dX6_feedNumber_14 : decode cX6_feedNumber 14 = .ok (.sipush 255, 3) := by decide +kernel
theorem dX6_feedNumber_17 : decode cX6_feedNumber 17 = .ok (.iand, 1) := by decide +kernel
theorem dX6_feedNumber_18 : decode cX6_feedNumber 18 = .ok (.invokevirtual 72, 3) := by decide +kernel
theorem dX6_feedNumber_21 : decode cX6_feedNumber 21 = .ok (.iinc 2 (-8), 3) := by decide +kernel
theorem dX6_feedNumber_24 : decode cX6_feedNumber 24 = .ok (.goto (-21), 3) := by decide +kernel
theorem dX6_feedNumber_27 : decode cX6_feedNumber 27 = .ok (.return_, 1) := by decide +kernel

theorem dX6_feed_0 : decode cX6_feed 0 = .ok (.aload_n 0, 1) := by decide +kernel
theorem dX6_feed_1 : decode cX6_feed 1 = .ok (.getfield 14, 3) := by decide +kernel
theorem dX6_feed_4 : decode cX6_feed 4 = .ok (.getfield 62, 3) := by decide +kernel
theorem dX6_feed_7 : decode cX6_feed 7 = .ok (.bipush 20, 2) := by decide +kernel
theorem dX6_feed_9 : decode cX6_feed 9 = .ok (.iadd, 1) := by decide +kernel
theorem dX6_feed_10 : decode cX6_feed 10 = .ok (.sipush 8192, 3) := by decide +kernel
theorem dX6_feed_13 : decode cX6_feed 13 = .ok (.if_icmp .le 5, 3) := by decide +kernel
theorem dX6_feed_16 : decode cX6_feed 16 = .ok (.iconst (-1), 1) := by decide +kernel
theorem dX6_feed_17 : decode cX6_feed 17 = .ok (.ireturn, 1) := by decide +kernel
theorem dX6_feed_18 : decode cX6_feed 18 = .ok (.aload_n 0, 1) := by decide +kernel
theorem dX6_feed_19 : decode cX6_feed 19 = .ok (.iload_n 1, 1) := by decide +kernel
theorem dX6_feed_20 : decode cX6_feed 20 = .ok (.invokevirtual 69, 3) := by decide +kernel
theorem dX6_feed_23 : decode cX6_feed 23 = .ok (.aload_n 0, 1) := by decide +kernel
theorem dX6_feed_24 : decode cX6_feed 24 = .ok (.iload_n 2, 1) := by decide +kernel
theorem dX6_feed_25 : decode cX6_feed 25 = .ok (.invokevirtual 69, 3) := by decide +kernel
theorem dX6_feed_28 : decode cX6_feed 28 = .ok (.aload_n 0, 1) := by decide +kernel
theorem dX6_feed_29 : decode cX6_feed 29 = .ok (.iload_n 3, 1) := by decide +kernel
theorem dX6_feed_30 : decode cX6_feed 30 = .ok (.invokevirtual 69, 3) := by decide +kernel
theorem dX6_feed_33 : decode cX6_feed 33 = .ok (.aload_n 0, 1) := by decide +kernel
theorem dX6_feed_34 : decode cX6_feed 34 = .ok (.iload 4, 2) := by decide +kernel
theorem dX6_feed_36 : decode cX6_feed 36 = .ok (.invokevirtual 69, 3) := by decide +kernel
theorem dX6_feed_39 : decode cX6_feed 39 = .ok (.aload_n 0, 1) := by decide +kernel
theorem dX6_feed_40 : decode cX6_feed 40 = .ok (.iload 5, 2) := by decide +kernel
theorem dX6_feed_42 : decode cX6_feed 42 = .ok (.invokevirtual 69, 3) := by decide +kernel
theorem dX6_feed_45 : decode cX6_feed 45 = .ok (.aload_n 0, 1) := by decide +kernel
theorem dX6_feed_46 : decode cX6_feed 46 = .ok (.getfield 14, 3) := by decide +kernel
theorem dX6_feed_49 : decode cX6_feed 49 = .ok (.getfield 62, 3) := by decide +kernel
theorem dX6_feed_52 : decode cX6_feed 52 = .ok (.ireturn, 1) := by decide +kernel

theorem dX6_end_0 : decode cX6_end 0 = .ok (.iload_n 1, 1) := by decide +kernel
theorem dX6_end_1 : decode cX6_end 1 = .ok (.ifCond .lt 21, 3) := by decide +kernel
theorem dX6_end_4 : decode cX6_end 4 = .ok (.iload_n 1, 1) := by decide +kernel
theorem dX6_end_5 : decode cX6_end 5 = .ok (.bipush 20, 2) := by decide +kernel
theorem dX6_end_7 : decode cX6_end 7 = .ok (.if_icmp .gt 15, 3) := by decide +kernel
theorem dX6_end_10 : decode cX6_end 10 = .ok (.aload_n 0, 1) := by decide +kernel
theorem dX6_end_11 : decode cX6_end 11 = .ok (.getfield 14, 3) := by decide +kernel
theorem dX6_end_14 : decode cX6_end 14 = .ok (.getfield 62, 3) := by decide +kernel
theorem dX6_end_17 : decode cX6_end 17 = .ok (.bipush 20, 2) := by decide +kernel
theorem dX6_end_19 : decode cX6_end 19 = .ok (.if_icmp .ge 5, 3) := by decide +kernel
theorem dX6_end_22 : decode cX6_end 22 = .ok (.iconst (-1), 1) := by decide +kernel
theorem dX6_end_23 : decode cX6_end 23 = .ok (.ireturn, 1) := by decide +kernel
theorem dX6_end_24 : decode cX6_end 24 = .ok (.aload_n 0, 1) := by decide +kernel
theorem dX6_end_25 : decode cX6_end 25 = .ok (.getfield 14, 3) := by decide +kernel
theorem dX6_end_28 : decode cX6_end 28 = .ok (.aload_n 0, 1) := by decide +kernel
theorem dX6_end_29 : decode cX6_end 29 = .ok (.getfield 14, 3) := by decide +kernel
theorem dX6_end_32 : decode cX6_end 32 = .ok (.getfield 62, 3) := by decide +kernel
theorem dX6_end_35 : decode cX6_end 35 = .ok (.bipush 20, 2) := by decide +kernel
theorem dX6_end_37 : decode cX6_end 37 = .ok (.isub, 1) := by decide +kernel
theorem dX6_end_38 : decode cX6_end 38 = .ok (.iload_n 1, 1) := by decide +kernel
theorem dX6_end_39 : decode cX6_end 39 = .ok (.iadd, 1) := by decide +kernel
theorem dX6_end_40 : decode cX6_end 40 = .ok (.invokevirtual 66, 3) := by decide +kernel
theorem dX6_end_43 : decode cX6_end 43 = .ok (.aload_n 0, 1) := by decide +kernel
theorem dX6_end_44 : decode cX6_end 44 = .ok (.getfield 14, 3) := by decide +kernel
theorem dX6_end_47 : decode cX6_end 47 = .ok (.getfield 62, 3) := by decide +kernel
theorem dX6_end_50 : decode cX6_end 50 = .ok (.ireturn, 1) := by decide +kernel

theorem dX6_change_0 : decode cX6_change 0 = .ok (.iload_n 2, 1) := by decide +kernel
theorem dX6_change_1 : decode cX6_change 1 = .ok (.ifCond .lt 10, 3) := by decide +kernel
theorem dX6_change_4 : decode cX6_change 4 = .ok (.iload_n 2, 1) := by decide +kernel
theorem dX6_change_5 : decode cX6_change 5 = .ok (.sipush 255, 3) := by decide +kernel
theorem dX6_change_8 : decode cX6_change 8 = .ok (.if_icmp .le 5, 3) := by decide +kernel
theorem dX6_change_11 : decode cX6_change 11 = .ok (.iconst (-1), 1) := by decide +kernel
theorem dX6_change_12 : decode cX6_change 12 = .ok (.ireturn, 1) := by decide +kernel
theorem dX6_change_13 : decode cX6_change 13 = .ok (.aload_n 0, 1) := by decide +kernel
theorem dX6_change_14 : decode cX6_change 14 = .ok (.getfield 14, 3) := by decide +kernel
theorem dX6_change_17 : decode cX6_change 17 = .ok (.iload_n 1, 1) := by decide +kernel
theorem dX6_change_18 : decode cX6_change 18 = .ok (.iload_n 2, 1) := by decide +kernel
theorem dX6_change_19 : decode cX6_change 19 = .ok (.invokevirtual 75, 3) := by decide +kernel
theorem dX6_change_22 : decode cX6_change 22 = .ok (.ireturn, 1) := by decide +kernel

theorem dX6_read_0 : decode cX6_read 0 = .ok (.aload_n 0, 1) := by decide +kernel
theorem dX6_read_1 : decode cX6_read 1 = .ok (.getfield 33, 3) := by decide +kernel
theorem dX6_read_4 : decode cX6_read 4 = .ok (.invokevirtual 79, 3) := by decide +kernel
theorem dX6_read_7 : decode cX6_read 7 = .ok (.aload_n 0, 1) := by decide +kernel
theorem dX6_read_8 : decode cX6_read 8 = .ok (.getfield 49, 3) := by decide +kernel
theorem dX6_read_11 : decode cX6_read 11 = .ok (.invokevirtual 82, 3) := by decide +kernel
theorem dX6_read_14 : decode cX6_read 14 = .ok (.aload_n 0, 1) := by decide +kernel
theorem dX6_read_15 : decode cX6_read 15 = .ok (.getfield 49, 3) := by decide +kernel
theorem dX6_read_18 : decode cX6_read 18 = .ok (.getfield 85, 3) := by decide +kernel
theorem dX6_read_21 : decode cX6_read 21 = .ok (.ifCond .ne 13, 3) := by decide +kernel
theorem dX6_read_24 : decode cX6_read 24 = .ok (.aload_n 0, 1) := by decide +kernel
theorem dX6_read_25 : decode cX6_read 25 = .ok (.getfield 40, 3) := by decide +kernel
theorem dX6_read_28 : decode cX6_read 28 = .ok (.invokevirtual 88, 3) := by decide +kernel
theorem dX6_read_31 : decode cX6_read 31 = .ok (.goto 17, 3) := by decide +kernel
theorem dX6_read_34 : decode cX6_read 34 = .ok (.aload_n 0, 1) := by decide +kernel
theorem dX6_read_35 : decode cX6_read 35 = .ok (.getfield 40, 3) := by decide +kernel
theorem dX6_read_38 : decode cX6_read 38 = .ok (.invokevirtual 91, 3) := by decide +kernel
theorem dX6_read_41 : decode cX6_read 41 = .ok (.aload_n 0, 1) := by decide +kernel
theorem dX6_read_42 : decode cX6_read 42 = .ok (.getfield 24, 3) := by decide +kernel
theorem dX6_read_45 : decode cX6_read 45 = .ok (.invokevirtual 94, 3) := by decide +kernel
theorem dX6_read_48 : decode cX6_read 48 = .ok (.aload_n 0, 1) := by decide +kernel
theorem dX6_read_49 : decode cX6_read 49 = .ok (.getfield 49, 3) := by decide +kernel
theorem dX6_read_52 : decode cX6_read 52 = .ok (.getfield 85, 3) := by decide +kernel
theorem dX6_read_55 : decode cX6_read 55 = .ok (.ireturn, 1) := by decide +kernel

theorem dX6_count_0 : decode cX6_count 0 = .ok (.iload_n 1, 1) := by decide +kernel
theorem dX6_count_1 : decode cX6_count 1 = .ok (.tableswitch 90 0 5 #[39, 47, 55, 63, 74, 82], 39) := by decide +kernel
theorem dX6_count_40 : decode cX6_count 40 = .ok (.aload_n 0, 1) := by decide +kernel
theorem dX6_count_41 : decode cX6_count 41 = .ok (.getfield 49, 3) := by decide +kernel
theorem dX6_count_44 : decode cX6_count 44 = .ok (.getfield 85, 3) := by decide +kernel
theorem dX6_count_47 : decode cX6_count 47 = .ok (.ireturn, 1) := by decide +kernel
theorem dX6_count_48 : decode cX6_count 48 = .ok (.aload_n 0, 1) := by decide +kernel
theorem dX6_count_49 : decode cX6_count 49 = .ok (.getfield 49, 3) := by decide +kernel
theorem dX6_count_52 : decode cX6_count 52 = .ok (.getfield 95, 3) := by decide +kernel
theorem dX6_count_55 : decode cX6_count 55 = .ok (.ireturn, 1) := by decide +kernel
theorem dX6_count_56 : decode cX6_count 56 = .ok (.aload_n 0, 1) := by decide +kernel
theorem dX6_count_57 : decode cX6_count 57 = .ok (.getfield 40, 3) := by decide +kernel
theorem dX6_count_60 : decode cX6_count 60 = .ok (.getfield 98, 3) := by decide +kernel
theorem dX6_count_63 : decode cX6_count 63 = .ok (.ireturn, 1) := by decide +kernel
theorem dX6_count_64 : decode cX6_count 64 = .ok (.aload_n 0, 1) := by decide +kernel
theorem dX6_count_65 : decode cX6_count 65 = .ok (.getfield 24, 3) := by decide +kernel
theorem dX6_count_68 : decode cX6_count 68 = .ok (.getfield 99, 3) := by decide +kernel
theorem dX6_count_71 : decode cX6_count 71 = .ok (.bipush 41, 2) := by decide +kernel
theorem dX6_count_73 : decode cX6_count 73 = .ok (.isub, 1) := by decide +kernel
theorem dX6_count_74 : decode cX6_count 74 = .ok (.ireturn, 1) := by decide +kernel
theorem dX6_count_75 : decode cX6_count 75 = .ok (.aload_n 0, 1) := by decide +kernel
theorem dX6_count_76 : decode cX6_count 76 = .ok (.getfield 14, 3) := by decide +kernel
theorem dX6_count_79 : decode cX6_count 79 = .ok (.getfield 62, 3) := by decide +kernel
theorem dX6_count_82 : decode cX6_count 82 = .ok (.ireturn, 1) := by decide +kernel
theorem dX6_count_83 : decode cX6_count 83 = .ok (.aload_n 0, 1) := by decide +kernel
theorem dX6_count_84 : decode cX6_count 84 = .ok (.getfield 18, 3) := by decide +kernel
theorem dX6_count_87 : decode cX6_count 87 = .ok (.getfield 62, 3) := by decide +kernel
theorem dX6_count_90 : decode cX6_count 90 = .ok (.ireturn, 1) := by decide +kernel
theorem dX6_count_91 : decode cX6_count 91 = .ok (.iconst (-1), 1) := by decide +kernel
theorem dX6_count_92 : decode cX6_count 92 = .ok (.ireturn, 1) := by decide +kernel

theorem dX6_node_0 : decode cX6_node 0 = .ok (.iload_n 2, 1) := by decide +kernel
theorem dX6_node_1 : decode cX6_node 1 = .ok (.tableswitch 80 0 4 #[35, 44, 53, 62, 71], 35) := by decide +kernel
theorem dX6_node_36 : decode cX6_node 36 = .ok (.aload_n 0, 1) := by decide +kernel
theorem dX6_node_37 : decode cX6_node 37 = .ok (.getfield 40, 3) := by decide +kernel
theorem dX6_node_40 : decode cX6_node 40 = .ok (.iload_n 1, 1) := by decide +kernel
theorem dX6_node_41 : decode cX6_node 41 = .ok (.invokevirtual 102, 3) := by decide +kernel
theorem dX6_node_44 : decode cX6_node 44 = .ok (.ireturn, 1) := by decide +kernel
theorem dX6_node_45 : decode cX6_node 45 = .ok (.aload_n 0, 1) := by decide +kernel
theorem dX6_node_46 : decode cX6_node 46 = .ok (.getfield 40, 3) := by decide +kernel
theorem dX6_node_49 : decode cX6_node 49 = .ok (.iload_n 1, 1) := by decide +kernel
theorem dX6_node_50 : decode cX6_node 50 = .ok (.invokevirtual 106, 3) := by decide +kernel
theorem dX6_node_53 : decode cX6_node 53 = .ok (.ireturn, 1) := by decide +kernel
theorem dX6_node_54 : decode cX6_node 54 = .ok (.aload_n 0, 1) := by decide +kernel
theorem dX6_node_55 : decode cX6_node 55 = .ok (.getfield 40, 3) := by decide +kernel
theorem dX6_node_58 : decode cX6_node 58 = .ok (.iload_n 1, 1) := by decide +kernel
theorem dX6_node_59 : decode cX6_node 59 = .ok (.invokevirtual 109, 3) := by decide +kernel
theorem dX6_node_62 : decode cX6_node 62 = .ok (.ireturn, 1) := by decide +kernel
theorem dX6_node_63 : decode cX6_node 63 = .ok (.aload_n 0, 1) := by decide +kernel
theorem dX6_node_64 : decode cX6_node 64 = .ok (.getfield 40, 3) := by decide +kernel
theorem dX6_node_67 : decode cX6_node 67 = .ok (.iload_n 1, 1) := by decide +kernel
theorem dX6_node_68 : decode cX6_node 68 = .ok (.invokevirtual 112, 3) := by decide +kernel
theorem dX6_node_71 : decode cX6_node 71 = .ok (.ireturn, 1) := by decide +kernel
theorem dX6_node_72 : decode cX6_node 72 = .ok (.aload_n 0, 1) := by decide +kernel
theorem dX6_node_73 : decode cX6_node 73 = .ok (.getfield 40, 3) := by decide +kernel
theorem dX6_node_76 : decode cX6_node 76 = .ok (.iload_n 1, 1) := by decide +kernel
theorem dX6_node_77 : decode cX6_node 77 = .ok (.invokevirtual 115, 3) := by decide +kernel
theorem dX6_node_80 : decode cX6_node 80 = .ok (.ireturn, 1) := by decide +kernel
theorem dX6_node_81 : decode cX6_node 81 = .ok (.iconst (-1), 1) := by decide +kernel
theorem dX6_node_82 : decode cX6_node 82 = .ok (.ireturn, 1) := by decide +kernel

theorem dX6_nameByte_0 : decode cX6_nameByte 0 = .ok (.iload_n 1, 1) := by decide +kernel
theorem dX6_nameByte_1 : decode cX6_nameByte 1 = .ok (.ifCond .lt 17, 3) := by decide +kernel
theorem dX6_nameByte_4 : decode cX6_nameByte 4 = .ok (.iload_n 1, 1) := by decide +kernel
theorem dX6_nameByte_5 : decode cX6_nameByte 5 = .ok (.aload_n 0, 1) := by decide +kernel
theorem dX6_nameByte_6 : decode cX6_nameByte 6 = .ok (.getfield 24, 3) := by decide +kernel
theorem dX6_nameByte_9 : decode cX6_nameByte 9 = .ok (.getfield 99, 3) := by decide +kernel
theorem dX6_nameByte_12 : decode cX6_nameByte 12 = .ok (.bipush 41, 2) := by decide +kernel
theorem dX6_nameByte_14 : decode cX6_nameByte 14 = .ok (.isub, 1) := by decide +kernel
theorem dX6_nameByte_15 : decode cX6_nameByte 15 = .ok (.if_icmp .lt 5, 3) := by decide +kernel
theorem dX6_nameByte_18 : decode cX6_nameByte 18 = .ok (.iconst (-1), 1) := by decide +kernel
theorem dX6_nameByte_19 : decode cX6_nameByte 19 = .ok (.ireturn, 1) := by decide +kernel
theorem dX6_nameByte_20 : decode cX6_nameByte 20 = .ok (.aload_n 0, 1) := by decide +kernel
theorem dX6_nameByte_21 : decode cX6_nameByte 21 = .ok (.getfield 24, 3) := by decide +kernel
theorem dX6_nameByte_24 : decode cX6_nameByte 24 = .ok (.bipush 41, 2) := by decide +kernel
theorem dX6_nameByte_26 : decode cX6_nameByte 26 = .ok (.iload_n 1, 1) := by decide +kernel
theorem dX6_nameByte_27 : decode cX6_nameByte 27 = .ok (.iadd, 1) := by decide +kernel
theorem dX6_nameByte_28 : decode cX6_nameByte 28 = .ok (.iload_n 2, 1) := by decide +kernel
theorem dX6_nameByte_29 : decode cX6_nameByte 29 = .ok (.invokevirtual 118, 3) := by decide +kernel
theorem dX6_nameByte_32 : decode cX6_nameByte 32 = .ok (.ireturn, 1) := by decide +kernel

theorem dX6_write_0 : decode cX6_write 0 = .ok (.aload_n 0, 1) := by decide +kernel
theorem dX6_write_1 : decode cX6_write 1 = .ok (.getfield 40, 3) := by decide +kernel
theorem dX6_write_4 : decode cX6_write 4 = .ok (.getfield 98, 3) := by decide +kernel
theorem dX6_write_7 : decode cX6_write 7 = .ok (.ifCond .ne 5, 3) := by decide +kernel
theorem dX6_write_10 : decode cX6_write 10 = .ok (.iconst (-1), 1) := by decide +kernel
theorem dX6_write_11 : decode cX6_write 11 = .ok (.ireturn, 1) := by decide +kernel
theorem dX6_write_12 : decode cX6_write 12 = .ok (.aload_n 0, 1) := by decide +kernel
theorem dX6_write_13 : decode cX6_write 13 = .ok (.getfield 58, 3) := by decide +kernel
theorem dX6_write_16 : decode cX6_write 16 = .ok (.invokevirtual 121, 3) := by decide +kernel
theorem dX6_write_19 : decode cX6_write 19 = .ok (.aload_n 0, 1) := by decide +kernel
theorem dX6_write_20 : decode cX6_write 20 = .ok (.getfield 18, 3) := by decide +kernel
theorem dX6_write_23 : decode cX6_write 23 = .ok (.getfield 62, 3) := by decide +kernel
theorem dX6_write_26 : decode cX6_write 26 = .ok (.ireturn, 1) := by decide +kernel

theorem dX6_byteAt_0 : decode cX6_byteAt 0 = .ok (.aload_n 0, 1) := by decide +kernel
theorem dX6_byteAt_1 : decode cX6_byteAt 1 = .ok (.getfield 18, 3) := by decide +kernel
theorem dX6_byteAt_4 : decode cX6_byteAt 4 = .ok (.iload_n 1, 1) := by decide +kernel
theorem dX6_byteAt_5 : decode cX6_byteAt 5 = .ok (.invokevirtual 124, 3) := by decide +kernel
theorem dX6_byteAt_8 : decode cX6_byteAt 8 = .ok (.ireturn, 1) := by decide +kernel

theorem dX6_back_0 : decode cX6_back 0 = .ok (.aload_n 0, 1) := by decide +kernel
theorem dX6_back_1 : decode cX6_back 1 = .ok (.getfield 18, 3) := by decide +kernel
theorem dX6_back_4 : decode cX6_back 4 = .ok (.getfield 62, 3) := by decide +kernel
theorem dX6_back_7 : decode cX6_back 7 = .ok (.ifCond .eq 16, 3) := by decide +kernel
theorem dX6_back_10 : decode cX6_back 10 = .ok (.aload_n 0, 1) := by decide +kernel
theorem dX6_back_11 : decode cX6_back 11 = .ok (.getfield 18, 3) := by decide +kernel
theorem dX6_back_14 : decode cX6_back 14 = .ok (.getfield 62, 3) := by decide +kernel
theorem dX6_back_17 : decode cX6_back 17 = .ok (.sipush 8192, 3) := by decide +kernel
theorem dX6_back_20 : decode cX6_back 20 = .ok (.if_icmp .le 5, 3) := by decide +kernel
theorem dX6_back_23 : decode cX6_back 23 = .ok (.iconst (-1), 1) := by decide +kernel
theorem dX6_back_24 : decode cX6_back 24 = .ok (.ireturn, 1) := by decide +kernel
theorem dX6_back_25 : decode cX6_back 25 = .ok (.aload_n 0, 1) := by decide +kernel
theorem dX6_back_26 : decode cX6_back 26 = .ok (.getfield 14, 3) := by decide +kernel
theorem dX6_back_29 : decode cX6_back 29 = .ok (.iconst 0, 1) := by decide +kernel
theorem dX6_back_30 : decode cX6_back 30 = .ok (.invokevirtual 66, 3) := by decide +kernel
theorem dX6_back_33 : decode cX6_back 33 = .ok (.iconst 0, 1) := by decide +kernel
theorem dX6_back_34 : decode cX6_back 34 = .ok (.istore_n 1, 1) := by decide +kernel
theorem dX6_back_35 : decode cX6_back 35 = .ok (.iload_n 1, 1) := by decide +kernel
theorem dX6_back_36 : decode cX6_back 36 = .ok (.aload_n 0, 1) := by decide +kernel
theorem dX6_back_37 : decode cX6_back 37 = .ok (.getfield 18, 3) := by decide +kernel
theorem dX6_back_40 : decode cX6_back 40 = .ok (.getfield 62, 3) := by decide +kernel
theorem dX6_back_43 : decode cX6_back 43 = .ok (.if_icmp .ge 24, 3) := by decide +kernel
theorem dX6_back_46 : decode cX6_back 46 = .ok (.aload_n 0, 1) := by decide +kernel
theorem dX6_back_47 : decode cX6_back 47 = .ok (.getfield 14, 3) := by decide +kernel
theorem dX6_back_50 : decode cX6_back 50 = .ok (.aload_n 0, 1) := by decide +kernel
theorem dX6_back_51 : decode cX6_back 51 = .ok (.getfield 18, 3) := by decide +kernel
theorem dX6_back_54 : decode cX6_back 54 = .ok (.iload_n 1, 1) := by decide +kernel
theorem dX6_back_55 : decode cX6_back 55 = .ok (.invokevirtual 124, 3) := by decide +kernel
theorem dX6_back_58 : decode cX6_back 58 = .ok (.invokevirtual 72, 3) := by decide +kernel
theorem dX6_back_61 : decode cX6_back 61 = .ok (.iinc 1 1, 3) := by decide +kernel
theorem dX6_back_64 : decode cX6_back 64 = .ok (.goto (-29), 3) := by decide +kernel
theorem dX6_back_67 : decode cX6_back 67 = .ok (.aload_n 0, 1) := by decide +kernel
theorem dX6_back_68 : decode cX6_back 68 = .ok (.getfield 14, 3) := by decide +kernel
theorem dX6_back_71 : decode cX6_back 71 = .ok (.getfield 62, 3) := by decide +kernel
theorem dX6_back_74 : decode cX6_back 74 = .ok (.ireturn, 1) := by decide +kernel
