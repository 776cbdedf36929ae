theorem dX8_count_0 : decode cX8_count 0 = .ok (.iload_n 1, 1) := by decide +kernel
theorem dX8_count_1 : decode cX8_count 1 = .ok (.tableswitch 69 0 5 #[39, 44, 49, 54, 59, 64], 39) := by decide +kernel
theorem dX8_count_40 : decode cX8_count 40 = .ok (.aload_n 0, 1) := by decide +kernel
theorem dX8_count_41 : decode cX8_count 41 = .ok (.getfield 100, 3) := by decide +kernel
theorem dX8_count_44 : decode cX8_count 44 = .ok (.ireturn, 1) := by decide +kernel
theorem dX8_count_45 : decode cX8_count 45 = .ok (.aload_n 0, 1) := by decide +kernel
theorem dX8_count_46 : decode cX8_count 46 = .ok (.getfield 25, 3) := by decide +kernel
theorem dX8_count_49 : decode cX8_count 49 = .ok (.ireturn, 1) := by decide +kernel
theorem dX8_count_50 : decode cX8_count 50 = .ok (.aload_n 0, 1) := by decide +kernel
theorem dX8_count_51 : decode cX8_count 51 = .ok (.getfield 428, 3) := by decide +kernel
theorem dX8_count_54 : decode cX8_count 54 = .ok (.ireturn, 1) := by decide +kernel
theorem dX8_count_55 : decode cX8_count 55 = .ok (.aload_n 0, 1) := by decide +kernel
theorem dX8_count_56 : decode cX8_count 56 = .ok (.getfield 113, 3) := by decide +kernel
theorem dX8_count_59 : decode cX8_count 59 = .ok (.ireturn, 1) := by decide +kernel
theorem dX8_count_60 : decode cX8_count 60 = .ok (.aload_n 0, 1) := by decide +kernel
theorem dX8_count_61 : decode cX8_count 61 = .ok (.getfield 86, 3) := by decide +kernel
theorem dX8_count_64 : decode cX8_count 64 = .ok (.ireturn, 1) := by decide +kernel
theorem dX8_count_65 : decode cX8_count 65 = .ok (.aload_n 0, 1) := by decide +kernel
theorem dX8_count_66 : decode cX8_count 66 = .ok (.getfield 440, 3) := by decide +kernel
theorem dX8_count_69 : decode cX8_count 69 = .ok (.ireturn, 1) := by decide +kernel
theorem dX8_count_70 : decode cX8_count 70 = .ok (.iconst (-1), 1) := by decide +kernel
theorem dX8_count_71 : decode cX8_count 71 = .ok (.ireturn, 1) := by decide +kernel

theorem dX8_children_0 : decode cX8_children 0 = .ok (.iconst 0, 1) := by decide +kernel
theorem dX8_children_1 : decode cX8_children 1 = .ok (.istore_n 2, 1) := by decide +kernel
theorem dX8_children_2 : decode cX8_children 2 = .ok (.aload_n 0, 1) := by decide +kernel
theorem dX8_children_3 : decode cX8_children 3 = .ok (.getfield 47, 3) := by decide +kernel
theorem dX8_children_6 : decode cX8_children 6 = .ok (.iload_n 1, 1) := by decide +kernel
theorem dX8_children_7 : decode cX8_children 7 = .ok (.iaload, 1) := by decide +kernel
theorem dX8_children_8 : decode cX8_children 8 = .ok (.istore_n 3, 1) := by decide +kernel
theorem dX8_children_9 : decode cX8_children 9 = .ok (.iload_n 3, 1) := by decide +kernel
theorem dX8_children_10 : decode cX8_children 10 = .ok (.iconst (-1), 1) := by decide +kernel
theorem dX8_children_11 : decode cX8_children 11 = .ok (.if_icmp .eq 16, 3) := by decide +kernel
theorem dX8_children_14 : decode cX8_children 14 = .ok (.iinc 2 1, 3) := by decide +kernel
theorem dX8_children_17 : decode cX8_children 17 = .ok (.aload_n 0, 1) := by decide +kernel
theorem dX8_children_18 : decode cX8_children 18 = .ok (.getfield 53, 3) := by decide +kernel
theorem dX8_children_21 : decode cX8_children 21 = .ok (.iload_n 3, 1) := by decide +kernel
theorem dX8_children_22 : decode cX8_children 22 = .ok (.iaload, 1) := by decide +kernel
theorem dX8_children_23 : decode cX8_children 23 = .ok (.istore_n 3, 1) := by decide +kernel
theorem dX8_children_24 : decode cX8_children 24 = .ok (.goto (-15), 3) := by decide +kernel
theorem dX8_children_27 : decode cX8_children 27 = .ok (.iload_n 2, 1) := by decide +kernel
theorem dX8_children_28 : decode cX8_children 28 = .ok (.ireturn, 1) := by decide +kernel

theorem dX8_node_0 : decode cX8_node 0 = .ok (.iload_n 1, 1) := by decide +kernel
theorem dX8_node_1 : decode cX8_node 1 = .ok (.ifCond .lt 20, 3) := by decide +kernel
theorem dX8_node_4 : decode cX8_node 4 = .ok (.iload_n 1, 1) := by decide +kernel
theorem dX8_node_5 : decode cX8_node 5 = .ok (.aload_n 0, 1) := by decide +kernel
theorem dX8_node_6 : decode cX8_node 6 = .ok (.getfield 428, 3) := by decide +kernel
theorem dX8_node_9 : decode cX8_node 9 = .ok (.if_icmp .ge 12, 3) := by decide +kernel
theorem dX8_node_12 : decode cX8_node 12 = .ok (.iload_n 2, 1) := by decide +kernel
theorem dX8_node_13 : decode cX8_node 13 = .ok (.ifCond .lt 8, 3) := by decide +kernel
theorem dX8_node_16 : decode cX8_node 16 = .ok (.iload_n 2, 1) := by decide +kernel
theorem dX8_node_17 : decode cX8_node 17 = .ok (.iconst 4, 1) := by decide +kernel
theorem dX8_node_18 : decode cX8_node 18 = .ok (.if_icmp .le 5, 3) := by decide +kernel
theorem dX8_node_21 : decode cX8_node 21 = .ok (.iconst (-1), 1) := by decide +kernel
theorem dX8_node_22 : decode cX8_node 22 = .ok (.ireturn, 1) := by decide +kernel
theorem dX8_node_23 : decode cX8_node 23 = .ok (.aload_n 0, 1) := by decide +kernel
theorem dX8_node_24 : decode cX8_node 24 = .ok (.getfield 71, 3) := by decide +kernel
theorem dX8_node_27 : decode cX8_node 27 = .ok (.iload_n 1, 1) := by decide +kernel
theorem dX8_node_28 : decode cX8_node 28 = .ok (.iaload, 1) := by decide +kernel
theorem dX8_node_29 : decode cX8_node 29 = .ok (.istore_n 3, 1) := by decide +kernel
theorem dX8_node_30 : decode cX8_node 30 = .ok (.iload_n 2, 1) := by decide +kernel
theorem dX8_node_31 : decode cX8_node 31 = .ok (.ifCond .ne 12, 3) := by decide +kernel
theorem dX8_node_34 : decode cX8_node 34 = .ok (.aload_n 0, 1) := by decide +kernel
theorem dX8_node_35 : decode cX8_node 35 = .ok (.getfield 35, 3) := by decide +kernel
theorem dX8_node_38 : decode cX8_node 38 = .ok (.iload_n 3, 1) := by decide +kernel
theorem dX8_node_39 : decode cX8_node 39 = .ok (.iaload, 1) := by decide +kernel
theorem dX8_node_40 : decode cX8_node 40 = .ok (.goto 63, 3) := by decide +kernel
theorem dX8_node_43 : decode cX8_node 43 = .ok (.iload_n 2, 1) := by decide +kernel
theorem dX8_node_44 : decode cX8_node 44 = .ok (.iconst 1, 1) := by decide +kernel
theorem dX8_node_45 : decode cX8_node 45 = .ok (.if_icmp .ne 12, 3) := by decide +kernel
theorem dX8_node_48 : decode cX8_node 48 = .ok (.aload_n 0, 1) := by decide +kernel
theorem dX8_node_49 : decode cX8_node 49 = .ok (.getfield 38, 3) := by decide +kernel
theorem dX8_node_52 : decode cX8_node 52 = .ok (.iload_n 3, 1) := by decide +kernel
theorem dX8_node_53 : decode cX8_node 53 = .ok (.iaload, 1) := by decide +kernel
theorem dX8_node_54 : decode cX8_node 54 = .ok (.goto 49, 3) := by decide +kernel
theorem dX8_node_57 : decode cX8_node 57 = .ok (.iload_n 2, 1) := by decide +kernel
theorem dX8_node_58 : decode cX8_node 58 = .ok (.iconst 2, 1) := by decide +kernel
theorem dX8_node_59 : decode cX8_node 59 = .ok (.if_icmp .ne 12, 3) := by decide +kernel
theorem dX8_node_62 : decode cX8_node 62 = .ok (.aload_n 0, 1) := by decide +kernel
theorem dX8_node_63 : decode cX8_node 63 = .ok (.getfield 41, 3) := by decide +kernel
theorem dX8_node_66 : decode cX8_node 66 = .ok (.iload_n 3, 1) := by decide +kernel
theorem dX8_node_67 : decode cX8_node 67 = .ok (.iaload, 1) := by decide +kernel
theorem dX8_node_68 : decode cX8_node 68 = .ok (.goto 35, 3) := by decide +kernel
theorem dX8_node_71 : decode cX8_node 71 = .ok (.iload_n 2, 1) := by decide +kernel
theorem dX8_node_72 : decode cX8_node 72 = .ok (.iconst 3, 1) := by decide +kernel
theorem dX8_node_73 : decode cX8_node 73 = .ok (.if_icmp .ne 25, 3) := by decide +kernel
theorem dX8_node_76 : decode cX8_node 76 = .ok (.iload_n 1, 1) := by decide +kernel
theorem dX8_node_77 : decode cX8_node 77 = .ok (.ifCond .ne 7, 3) := by decide +kernel
theorem dX8_node_80 : decode cX8_node 80 = .ok (.iconst (-1), 1) := by decide +kernel
theorem dX8_node_81 : decode cX8_node 81 = .ok (.goto 22, 3) := by decide +kernel
theorem dX8_node_84 : decode cX8_node 84 = .ok (.aload_n 0, 1) := by decide +kernel
theorem dX8_node_85 : decode cX8_node 85 = .ok (.getfield 74, 3) := by decide +kernel
theorem dX8_node_88 : decode cX8_node 88 = .ok (.aload_n 0, 1) := by decide +kernel
theorem dX8_node_89 : decode cX8_node 89 = .ok (.getfield 44, 3) := by decide +kernel
theorem dX8_node_92 : decode cX8_node 92 = .ok (.iload_n 3, 1) := by decide +kernel
theorem dX8_node_93 : decode cX8_node 93 = .ok (.iaload, 1) := by decide +kernel
theorem dX8_node_94 : decode cX8_node 94 = .ok (.iaload, 1) := by decide +kernel
theorem dX8_node_95 : decode cX8_node 95 = .ok (.goto 8, 3) := by decide +kernel
theorem dX8_node_98 : decode cX8_node 98 = .ok (.aload_n 0, 1) := by decide +kernel
theorem dX8_node_99 : decode cX8_node 99 = .ok (.iload_n 3, 1) := by decide +kernel
theorem dX8_node_100 : decode cX8_node 100 = .ok (.invokevirtual 443, 3) := by decide +kernel
theorem dX8_node_103 : decode cX8_node 103 = .ok (.ireturn, 1) := by decide +kernel

theorem dX8_nameByte_0 : decode cX8_nameByte 0 = .ok (.iload_n 1, 1) := by decide +kernel
theorem dX8_nameByte_1 : decode cX8_nameByte 1 = .ok (.ifCond .lt 34, 3) := by decide +kernel
theorem dX8_nameByte_4 : decode cX8_nameByte 4 = .ok (.iload_n 1, 1) := by decide +kernel
theorem dX8_nameByte_5 : decode cX8_nameByte 5 = .ok (.aload_n 0, 1) := by decide +kernel
theorem dX8_nameByte_6 : decode cX8_nameByte 6 = .ok (.getfield 113, 3) := by decide +kernel
theorem dX8_nameByte_9 : decode cX8_nameByte 9 = .ok (.if_icmp .ge 26, 3) := by decide +kernel
theorem dX8_nameByte_12 : decode cX8_nameByte 12 = .ok (.iload_n 2, 1) := by decide +kernel
theorem dX8_nameByte_13 : decode cX8_nameByte 13 = .ok (.ifCond .lt 22, 3) := by decide +kernel
theorem dX8_nameByte_16 : decode cX8_nameByte 16 = .ok (.iload_n 2, 1) := by decide +kernel
theorem dX8_nameByte_17 : decode cX8_nameByte 17 = .ok (.aload_n 0, 1) := by decide +kernel
theorem dX8_nameByte_18 : decode cX8_nameByte 18 = .ok (.getfield 29, 3) := by decide +kernel
theorem dX8_nameByte_21 : decode cX8_nameByte 21 = .ok (.iload_n 1, 1) := by decide +kernel
theorem dX8_nameByte_22 : decode cX8_nameByte 22 = .ok (.iconst 1, 1) := by decide +kernel
theorem dX8_nameByte_23 : decode cX8_nameByte 23 = .ok (.iadd, 1) := by decide +kernel
theorem dX8_nameByte_24 : decode cX8_nameByte 24 = .ok (.iaload, 1) := by decide +kernel
theorem dX8_nameByte_25 : decode cX8_nameByte 25 = .ok (.aload_n 0, 1) := by decide +kernel
theorem dX8_nameByte_26 : decode cX8_nameByte 26 = .ok (.getfield 29, 3) := by decide +kernel
theorem dX8_nameByte_29 : decode cX8_nameByte 29 = .ok (.iload_n 1, 1) := by decide +kernel
theorem dX8_nameByte_30 : decode cX8_nameByte 30 = .ok (.iaload, 1) := by decide +kernel
theorem dX8_nameByte_31 : decode cX8_nameByte 31 = .ok (.isub, 1) := by decide +kernel
theorem dX8_nameByte_32 : decode cX8_nameByte 32 = .ok (.if_icmp .lt 5, 3) := by decide +kernel
theorem dX8_nameByte_35 : decode cX8_nameByte 35 = .ok (.iconst (-1), 1) := by decide +kernel
theorem dX8_nameByte_36 : decode cX8_nameByte 36 = .ok (.ireturn, 1) := by decide +kernel
theorem dX8_nameByte_37 : decode cX8_nameByte 37 = .ok (.aload_n 0, 1) := by decide +kernel
theorem dX8_nameByte_38 : decode cX8_nameByte 38 = .ok (.getfield 32, 3) := by decide +kernel
theorem dX8_nameByte_41 : decode cX8_nameByte 41 = .ok (.aload_n 0, 1) := by decide +kernel
theorem dX8_nameByte_42 : decode cX8_nameByte 42 = .ok (.getfield 29, 3) := by decide +kernel
theorem dX8_nameByte_45 : decode cX8_nameByte 45 = .ok (.iload_n 1, 1) := by decide +kernel
theorem dX8_nameByte_46 : decode cX8_nameByte 46 = .ok (.iaload, 1) := by decide +kernel
theorem dX8_nameByte_47 : decode cX8_nameByte 47 = .ok (.iload_n 2, 1) := by decide +kernel
theorem dX8_nameByte_48 : decode cX8_nameByte 48 = .ok (.iadd, 1) := by decide +kernel
theorem dX8_nameByte_49 : decode cX8_nameByte 49 = .ok (.iaload, 1) := by decide +kernel
theorem dX8_nameByte_50 : decode cX8_nameByte 50 = .ok (.ireturn, 1) := by decide +kernel

theorem dX8_item_0 : decode cX8_item 0 = .ok (.aload_n 0, 1) := by decide +kernel
theorem dX8_item_1 : decode cX8_item 1 = .ok (.getfield 80, 3) := by decide +kernel
theorem dX8_item_4 : decode cX8_item 4 = .ok (.aload_n 0, 1) := by decide +kernel
theorem dX8_item_5 : decode cX8_item 5 = .ok (.getfield 446, 3) := by decide +kernel
theorem dX8_item_8 : decode cX8_item 8 = .ok (.iload_n 1, 1) := by decide +kernel
theorem dX8_item_9 : decode cX8_item 9 = .ok (.iastore, 1) := by decide +kernel
theorem dX8_item_10 : decode cX8_item 10 = .ok (.aload_n 0, 1) := by decide +kernel
theorem dX8_item_11 : decode cX8_item 11 = .ok (.getfield 83, 3) := by decide +kernel
theorem dX8_item_14 : decode cX8_item 14 = .ok (.aload_n 0, 1) := by decide +kernel
theorem dX8_item_15 : decode cX8_item 15 = .ok (.getfield 446, 3) := by decide +kernel
theorem dX8_item_18 : decode cX8_item 18 = .ok (.iload_n 2, 1) := by decide +kernel
theorem dX8_item_19 : decode cX8_item 19 = .ok (.iastore, 1) := by decide +kernel
theorem dX8_item_20 : decode cX8_item 20 = .ok (.aload_n 0, 1) := by decide +kernel
theorem dX8_item_21 : decode cX8_item 21 = .ok (.dup, 1) := by decide +kernel
theorem dX8_item_22 : decode cX8_item 22 = .ok (.getfield 446, 3) := by decide +kernel
theorem dX8_item_25 : decode cX8_item 25 = .ok (.iconst 1, 1) := by decide +kernel
theorem dX8_item_26 : decode cX8_item 26 = .ok (.iadd, 1) := by decide +kernel
theorem dX8_item_27 : decode cX8_item 27 = .ok (.putfield 446, 3) := by decide +kernel
theorem dX8_item_30 : decode cX8_item 30 = .ok (.return_, 1) := by decide +kernel

theorem dX8_put_0 : decode cX8_put 0 = .ok (.aload_n 0, 1) := by decide +kernel
theorem dX8_put_1 : decode cX8_put 1 = .ok (.getfield 77, 3) := by decide +kernel
theorem dX8_put_4 : decode cX8_put 4 = .ok (.aload_n 0, 1) := by decide +kernel
theorem dX8_put_5 : decode cX8_put 5 = .ok (.getfield 440, 3) := by decide +kernel
theorem dX8_put_8 : decode cX8_put 8 = .ok (.iload_n 1, 1) := by decide +kernel
theorem dX8_put_9 : decode cX8_put 9 = .ok (.iastore, 1) := by decide +kernel
theorem dX8_put_10 : decode cX8_put 10 = .ok (.aload_n 0, 1) := by decide +kernel
theorem dX8_put_11 : decode cX8_put 11 = .ok (.dup, 1) := by decide +kernel
theorem dX8_put_12 : decode cX8_put 12 = .ok (.getfield 440, 3) := by decide +kernel
theorem dX8_put_15 : decode cX8_put 15 = .ok (.iconst 1, 1) := by decide +kernel
theorem dX8_put_16 : decode cX8_put 16 = .ok (.iadd, 1) := by decide +kernel
theorem dX8_put_17 : decode cX8_put 17 = .ok (.putfield 440, 3) := by decide +kernel
theorem dX8_put_20 : decode cX8_put 20 = .ok (.return_, 1) := by decide +kernel

theorem dX8_isOfName_0 : decode cX8_isOfName 0 = .ok (.iload_n 0, 1) := by decide +kernel
theorem dX8_isOfName_1 : decode cX8_isOfName 1 = .ok (.invokestatic 93, 3) := by decide +kernel
theorem dX8_isOfName_4 : decode cX8_isOfName 4 = .ok (.ifCond .ne 10, 3) := by decide +kernel
theorem dX8_isOfName_7 : decode cX8_isOfName 7 = .ok (.iload_n 0, 1) := by decide +kernel
theorem dX8_isOfName_8 : decode cX8_isOfName 8 = .ok (.invokestatic 97, 3) := by decide +kernel
theorem dX8_isOfName_11 : decode cX8_isOfName 11 = .ok (.ifCond .eq 7, 3) := by decide +kernel
theorem dX8_isOfName_14 : decode cX8_isOfName 14 = .ok (.iconst 1, 1) := by decide +kernel
theorem dX8_isOfName_15 : decode cX8_isOfName 15 = .ok (.goto 4, 3) := by decide +kernel
theorem dX8_isOfName_18 : decode cX8_isOfName 18 = .ok (.iconst 0, 1) := by decide +kernel
theorem dX8_isOfName_19 : decode cX8_isOfName 19 = .ok (.ireturn, 1) := by decide +kernel

theorem dX8_part_0 : decode cX8_part 0 = .ok (.aload_n 0, 1) := by decide +kernel
theorem dX8_part_1 : decode cX8_part 1 = .ok (.getfield 440, 3) := by decide +kernel
theorem dX8_part_4 : decode cX8_part 4 = .ok (.ifCond .le 33, 3) := by decide +kernel
theorem dX8_part_7 : decode cX8_part 7 = .ok (.iload_n 1, 1) := by decide +kernel
theorem dX8_part_8 : decode cX8_part 8 = .ok (.invokestatic 449, 3) := by decide +kernel
theorem dX8_part_11 : decode cX8_part 11 = .ok (.ifCond .eq 26, 3) := by decide +kernel
theorem dX8_part_14 : decode cX8_part 14 = .ok (.aload_n 0, 1) := by decide +kernel
theorem dX8_part_15 : decode cX8_part 15 = .ok (.getfield 77, 3) := by decide +kernel
theorem dX8_part_18 : decode cX8_part 18 = .ok (.aload_n 0, 1) := by decide +kernel
theorem dX8_part_19 : decode cX8_part 19 = .ok (.getfield 440, 3) := by decide +kernel
theorem dX8_part_22 : decode cX8_part 22 = .ok (.iconst 1, 1) := by decide +kernel
theorem dX8_part_23 : decode cX8_part 23 = .ok (.isub, 1) := by decide +kernel
theorem dX8_part_24 : decode cX8_part 24 = .ok (.iaload, 1) := by decide +kernel
theorem dX8_part_25 : decode cX8_part 25 = .ok (.invokestatic 449, 3) := by decide +kernel
theorem dX8_part_28 : decode cX8_part 28 = .ok (.ifCond .eq 9, 3) := by decide +kernel
theorem dX8_part_31 : decode cX8_part 31 = .ok (.aload_n 0, 1) := by decide +kernel
theorem dX8_part_32 : decode cX8_part 32 = .ok (.bipush 32, 2) := by decide +kernel
theorem dX8_part_34 : decode cX8_part 34 = .ok (.invokevirtual 452, 3) := by decide +kernel
theorem dX8_part_37 : decode cX8_part 37 = .ok (.return_, 1) := by decide +kernel

theorem dX8_putToken_0 : decode cX8_putToken 0 = .ok (.iload_n 1, 1) := by decide +kernel
theorem dX8_putToken_1 : decode cX8_putToken 1 = .ok (.bipush 41, 2) := by decide +kernel
theorem dX8_putToken_3 : decode cX8_putToken 3 = .ok (.if_icmp .ge 44, 3) := by decide +kernel
theorem dX8_putToken_6 : decode cX8_putToken 6 = .ok (.aload_n 0, 1) := by decide +kernel
theorem dX8_putToken_7 : decode cX8_putToken 7 = .ok (.bipush 65, 2) := by decide +kernel
theorem dX8_putToken_9 : decode cX8_putToken 9 = .ok (.invokevirtual 455, 3) := by decide +kernel
theorem dX8_putToken_12 : decode cX8_putToken 12 = .ok (.aload_n 0, 1) := by decide +kernel
theorem dX8_putToken_13 : decode cX8_putToken 13 = .ok (.getfield 13, 3) := by decide +kernel
theorem dX8_putToken_16 : decode cX8_putToken 16 = .ok (.iload_n 1, 1) := by decide +kernel
theorem dX8_putToken_17 : decode cX8_putToken 17 = .ok (.iaload, 1) := by decide +kernel
theorem dX8_putToken_18 : decode cX8_putToken 18 = .ok (.istore_n 2, 1) := by decide +kernel
theorem dX8_putToken_19 : decode cX8_putToken 19 = .ok (.aload_n 0, 1) := by decide +kernel
theorem dX8_putToken_20 : decode cX8_putToken 20 = .ok (.getfield 7, 3) := by decide +kernel
theorem dX8_putToken_23 : decode cX8_putToken 23 = .ok (.iload_n 2, 1) := by decide +kernel
theorem dX8_putToken_24 : decode cX8_putToken 24 = .ok (.iaload, 1) := by decide +kernel
theorem dX8_putToken_25 : decode cX8_putToken 25 = .ok (.ifCond .eq 19, 3) := by decide +kernel
theorem dX8_putToken_28 : decode cX8_putToken 28 = .ok (.aload_n 0, 1) := by decide +kernel
theorem dX8_putToken_29 : decode cX8_putToken 29 = .ok (.aload_n 0, 1) := by decide +kernel
theorem dX8_putToken_30 : decode cX8_putToken 30 = .ok (.getfield 7, 3) := by decide +kernel
theorem dX8_putToken_33 : decode cX8_putToken 33 = .ok (.iload_n 2, 1) := by decide +kernel
theorem dX8_putToken_34 : decode cX8_putToken 34 = .ok (.iaload, 1) := by decide +kernel
theorem dX8_putToken_35 : decode cX8_putToken 35 = .ok (.invokevirtual 452, 3) := by decide +kernel
theorem dX8_putToken_38 : decode cX8_putToken 38 = .ok (.iinc 2 1, 3) := by decide +kernel
theorem dX8_putToken_41 : decode cX8_putToken 41 = .ok (.goto (-22), 3) := by decide +kernel
theorem dX8_putToken_44 : decode cX8_putToken 44 = .ok (.goto 43, 3) := by decide +kernel
theorem dX8_putToken_47 : decode cX8_putToken 47 = .ok (.iconst 2, 1) := by decide +kernel
theorem dX8_putToken_48 : decode cX8_putToken 48 = .ok (.iload_n 1, 1) := by decide +kernel
theorem dX8_putToken_49 : decode cX8_putToken 49 = .ok (.bipush 50, 2) := by decide +kernel
theorem dX8_putToken_51 : decode cX8_putToken 51 = .ok (.isub, 1) := by decide +kernel
theorem dX8_putToken_52 : decode cX8_putToken 52 = .ok (.imul, 1) := by decide +kernel
theorem dX8_putToken_53 : decode cX8_putToken 53 = .ok (.istore_n 2, 1) := by decide +kernel
theorem dX8_putToken_54 : decode cX8_putToken 54 = .ok (.aload_n 0, 1) := by decide +kernel
theorem dX8_putToken_55 : decode cX8_putToken 55 = .ok (.aload_n 0, 1) := by decide +kernel
theorem dX8_putToken_56 : decode cX8_putToken 56 = .ok (.getfield 16, 3) := by decide +kernel
theorem dX8_putToken_59 : decode cX8_putToken 59 = .ok (.iload_n 2, 1) := by decide +kernel
theorem dX8_putToken_60 : decode cX8_putToken 60 = .ok (.iaload, 1) := by decide +kernel
theorem dX8_putToken_61 : decode cX8_putToken 61 = .ok (.invokevirtual 452, 3) := by decide +kernel
theorem dX8_putToken_64 : decode cX8_putToken 64 = .ok (.aload_n 0, 1) := by decide +kernel
theorem dX8_putToken_65 : decode cX8_putToken 65 = .ok (.getfield 16, 3) := by decide +kernel
theorem dX8_putToken_68 : decode cX8_putToken 68 = .ok (.iload_n 2, 1) := by decide +kernel
theorem dX8_putToken_69 : decode cX8_putToken 69 = .ok (.iconst 1, 1) := by decide +kernel
theorem dX8_putToken_70 : decode cX8_putToken 70 = .ok (.iadd, 1) := by decide +kernel
theorem dX8_putToken_71 : decode cX8_putToken 71 = .ok (.iaload, 1) := by decide +kernel
theorem dX8_putToken_72 : decode cX8_putToken 72 = .ok (.ifCond .eq 15, 3) := by decide +kernel
theorem dX8_putToken_75 : decode cX8_putToken 75 = .ok (.aload_n 0, 1) := by decide +kernel
theorem dX8_putToken_76 : decode cX8_putToken 76 = .ok (.aload_n 0, 1) := by decide +kernel
theorem dX8_putToken_77 : decode cX8_putToken 77 = .ok (.getfield 16, 3) := by decide +kernel
theorem dX8_putToken_80 : decode cX8_putToken 80 = .ok (.iload_n 2, 1) := by decide +kernel
theorem dX8_putToken_81 : decode cX8_putToken 81 = .ok (.iconst 1, 1) := by decide +kernel
theorem dX8_putToken_82 : decode cX8_putToken 82 = .ok (.iadd, 1) := by decide +kernel
theorem dX8_putToken_83 : decode cX8_putToken 83 = .ok (.iaload, 1) := by decide +kernel
theorem dX8_putToken_84 : decode cX8_putToken 84 = .ok (.invokevirtual 452, 3) := by decide +kernel
theorem dX8_putToken_87 : decode cX8_putToken 87 = .ok (.return_, 1) := by decide +kernel

theorem dX8_putName_0 : decode cX8_putName 0 = .ok (.aload_n 0, 1) := by decide +kernel
theorem dX8_putName_1 : decode cX8_putName 1 = .ok (.bipush 65, 2) := by decide +kernel
theorem dX8_putName_3 : decode cX8_putName 3 = .ok (.invokevirtual 455, 3) := by decide +kernel
theorem dX8_putName_6 : decode cX8_putName 6 = .ok (.aload_n 0, 1) := by decide +kernel
theorem dX8_putName_7 : decode cX8_putName 7 = .ok (.getfield 29, 3) := by decide +kernel
theorem dX8_putName_10 : decode cX8_putName 10 = .ok (.iload_n 1, 1) := by decide +kernel
theorem dX8_putName_11 : decode cX8_putName 11 = .ok (.iaload, 1) := by decide +kernel
theorem dX8_putName_12 : decode cX8_putName 12 = .ok (.istore_n 2, 1) := by decide +kernel
theorem dX8_putName_13 : decode cX8_putName 13 = .ok (.iload_n 2, 1) := by decide +kernel
theorem dX8_putName_14 : decode cX8_putName 14 = .ok (.aload_n 0, 1) := by decide +kernel
theorem dX8_putName_15 : decode cX8_putName 15 = .ok (.getfield 29, 3) := by decide +kernel
theorem dX8_putName_18 : decode cX8_putName 18 = .ok (.iload_n 1, 1) := by decide +kernel
theorem dX8_putName_19 : decode cX8_putName 19 = .ok (.iconst 1, 1) := by decide +kernel
theorem dX8_putName_20 : decode cX8_putName 20 = .ok (.iadd, 1) := by decide +kernel
theorem dX8_putName_21 : decode cX8_putName 21 = .ok (.iaload, 1) := by decide +kernel
theorem dX8_putName_22 : decode cX8_putName 22 = .ok (.if_icmp .ge 19, 3) := by decide +kernel
theorem dX8_putName_25 : decode cX8_putName 25 = .ok (.aload_n 0, 1) := by decide +kernel
theorem dX8_putName_26 : decode cX8_putName 26 = .ok (.aload_n 0, 1) := by decide +kernel
theorem dX8_putName_27 : decode cX8_putName 27 = .ok (.getfield 32, 3) := by decide +kernel
theorem dX8_putName_30 : decode cX8_putName 30 = .ok (.iload_n 2, 1) := by decide +kernel
theorem dX8_putName_31 : decode cX8_putName 31 = .ok (.iaload, 1) := by decide +kernel
theorem dX8_putName_32 : decode cX8_putName 32 = .ok (.invokevirtual 452, 3) := by decide +kernel
theorem dX8_putName_35 : decode cX8_putName 35 = .ok (.iinc 2 1, 3) := by decide +kernel
theorem dX8_putName_38 : decode cX8_putName 38 = .ok (.goto (-25), 3) := by decide +kernel
theorem dX8_putName_41 : decode cX8_putName 41 = .ok (.return_, 1) := by decide +kernel

theorem dX8_putNumber_0 : decode cX8_putNumber 0 = .ok (.iload_n 1, 1) := by decide +kernel
theorem dX8_putNumber_1 : decode cX8_putNumber 1 = .ok (.i2l, 1) := by decide +kernel
theorem dX8_putNumber_2 : decode cX8_putNumber 2 = .ok (.lstore_n 2, 1) := by decide +kernel
theorem dX8_putNumber_3 : decode cX8_putNumber 3 = .ok (.iload_n 1, 1) := by decide +kernel
theorem dX8_putNumber_4 : decode cX8_putNumber 4 = .ok (.ifCond .ge 12, 3) := by decide +kernel
theorem dX8_putNumber_7 : decode cX8_putNumber 7 = .ok (.aload_n 0, 1) := by decide +kernel
theorem dX8_putNumber_8 : decode cX8_putNumber 8 = .ok (.bipush 45, 2) := by decide +kernel
theorem dX8_putNumber_10 : decode cX8_putNumber 10 = .ok (.invokevirtual 452, 3) := by decide +kernel
theorem dX8_putNumber_13 : decode cX8_putNumber 13 = .ok (.lload_n 2, 1) := by decide +kernel
theorem dX8_putNumber_14 : decode cX8_putNumber 14 = .ok (.lneg, 1) := by decide +kernel
theorem dX8_putNumber_15 : decode cX8_putNumber 15 = .ok (.lstore_n 2, 1) := by decide +kernel
theorem dX8_putNumber_16 : decode cX8_putNumber 16 = .ok (.aload_n 0, 1) := by decide +kernel
theorem dX8_putNumber_17 : decode cX8_putNumber 17 = .ok (.bipush 48, 2) := by decide +kernel
theorem dX8_putNumber_19 : decode cX8_putNumber 19 = .ok (.invokevirtual 455, 3) := by decide +kernel
theorem dX8_putNumber_22 : decode cX8_putNumber 22 = .ok (.lconst 1, 1) := by decide +kernel
theorem dX8_putNumber_23 : decode cX8_putNumber 23 = .ok (.lstore 4, 2) := by decide +kernel
theorem dX8_putNumber_25 : decode cX8_putNumber 25 = .ok (.lload_n 2, 1) := by decide +kernel
theorem dX8_putNumber_26 : decode cX8_putNumber 26 = .ok (.lload 4, 2) := by decide +kernel
theorem dX8_putNumber_28 : decode cX8_putNumber 28 = .ok (.ldiv, 1) := by decide +kernel
theorem dX8_putNumber_29 : decode cX8_putNumber 29 = .ok (.ldc2_w 458, 3) := by decide +kernel
theorem dX8_putNumber_32 : decode cX8_putNumber 32 = .ok (.lcmp, 1) := by decide +kernel
theorem dX8_putNumber_33 : decode cX8_putNumber 33 = .ok (.ifCond .le 14, 3) := by decide +kernel
theorem dX8_putNumber_36 : decode cX8_putNumber 36 = .ok (.lload 4, 2) := by decide +kernel
theorem dX8_putNumber_38 : decode cX8_putNumber 38 = .ok (.ldc2_w 460, 3) := by decide +kernel
theorem dX8_putNumber_41 : decode cX8_putNumber 41 = .ok (.lmul, 1) := by decide +kernel
theorem dX8_putNumber_42 : decode cX8_putNumber 42 = .ok (.lstore 4, 2) := by decide +kernel
theorem dX8_putNumber_44 : decode cX8_putNumber 44 = .ok (.goto (-19), 3) := by decide +kernel
theorem dX8_putNumber_47 : decode cX8_putNumber 47 = .ok (.lload 4, 2) := by decide +kernel
theorem dX8_putNumber_49 : decode cX8_putNumber 49 = .ok (.lconst 0, 1) := by decide +kernel
theorem dX8_putNumber_50 : decode cX8_putNumber 50 = .ok (.lcmp, 1) := by decide +kernel
theorem dX8_putNumber_51 : decode cX8_putNumber 51 = .ok (.ifCond .le 30, 3) := by decide +kernel
theorem dX8_putNumber_54 : decode cX8_putNumber 54 = .ok (.aload_n 0, 1) := by decide +kernel
theorem dX8_putNumber_55 : decode cX8_putNumber 55 = .ok (.bipush 48, 2) := by decide +kernel
theorem dX8_putNumber_57 : decode cX8_putNumber 57 = .ok (.lload_n 2, 1) := by decide +kernel
theorem dX8_putNumber_58 : decode cX8_putNumber 58 = .ok (.lload 4, 2) := by decide +kernel
theorem dX8_putNumber_60 : decode cX8_putNumber 60 = .ok (.ldiv, 1) := by decide +kernel
theorem dX8_putNumber_61 : decode cX8_putNumber 61 = .ok (.ldc2_w 460, 3) := by decide +kernel
theorem dX8_putNumber_64 : decode cX8_putNumber 64 = .ok (.lrem, 1) := by decide +kernel
theorem dX8_putNumber_65 : decode cX8_putNumber 65 = .ok (.l2i, 1) := by decide +kernel
theorem dX8_putNumber_66 : decode cX8_putNumber 66 = .ok (.iadd, 1) := by decide +kernel
theorem dX8_putNumber_67 : decode cX8_putNumber 67 = .ok (.invokevirtual 452, 3) := by decide +kernel
theorem dX8_putNumber_70 : decode cX8_putNumber 70 = .ok (.lload 4, 2) := by decide +kernel
theorem dX8_putNumber_72 : decode cX8_putNumber 72 = .ok (.ldc2_w 460, 3) := by decide +kernel
theorem dX8_putNumber_75 : decode cX8_putNumber 75 = .ok (.ldiv, 1) := by decide +kernel
theorem dX8_putNumber_76 : decode cX8_putNumber 76 = .ok (.lstore 4, 2) := by decide +kernel
theorem dX8_putNumber_78 : decode cX8_putNumber 78 = .ok (.goto (-31), 3) := by decide +kernel
theorem dX8_putNumber_81 : decode cX8_putNumber 81 = .ok (.return_, 1) := by decide +kernel

theorem dX8_putPlace_0 : decode cX8_putPlace 0 = .ok (.aload_n 0, 1) := by decide +kernel
theorem dX8_putPlace_1 : decode cX8_putPlace 1 = .ok (.bipush 37, 2) := by decide +kernel
theorem dX8_putPlace_3 : decode cX8_putPlace 3 = .ok (.invokevirtual 452, 3) := by decide +kernel
theorem dX8_putPlace_6 : decode cX8_putPlace 6 = .ok (.aload_n 0, 1) := by decide +kernel
theorem dX8_putPlace_7 : decode cX8_putPlace 7 = .ok (.aload_n 0, 1) := by decide +kernel
theorem dX8_putPlace_8 : decode cX8_putPlace 8 = .ok (.getfield 19, 3) := by decide +kernel
theorem dX8_putPlace_11 : decode cX8_putPlace 11 = .ok (.iload_n 1, 1) := by decide +kernel
theorem dX8_putPlace_12 : decode cX8_putPlace 12 = .ok (.sipush 256, 3) := by decide +kernel
theorem dX8_putPlace_15 : decode cX8_putPlace 15 = .ok (.idiv, 1) := by decide +kernel
theorem dX8_putPlace_16 : decode cX8_putPlace 16 = .ok (.iconst 2, 1) := by decide +kernel
theorem dX8_putPlace_17 : decode cX8_putPlace 17 = .ok (.imul, 1) := by decide +kernel
theorem dX8_putPlace_18 : decode cX8_putPlace 18 = .ok (.iaload, 1) := by decide +kernel
theorem dX8_putPlace_19 : decode cX8_putPlace 19 = .ok (.invokevirtual 452, 3) := by decide +kernel
theorem dX8_putPlace_22 : decode cX8_putPlace 22 = .ok (.aload_n 0, 1) := by decide +kernel
theorem dX8_putPlace_23 : decode cX8_putPlace 23 = .ok (.aload_n 0, 1) := by decide +kernel
theorem dX8_putPlace_24 : decode cX8_putPlace 24 = .ok (.getfield 19, 3) := by decide +kernel
theorem dX8_putPlace_27 : decode cX8_putPlace 27 = .ok (.iload_n 1, 1) := by decide +kernel
theorem dX8_putPlace_28 : decode cX8_putPlace 28 = .ok (.sipush 256, 3) := by decide +kernel
theorem dX8_putPlace_31 : decode cX8_putPlace 31 = .ok (.idiv, 1) := by decide +kernel
theorem dX8_putPlace_32 : decode cX8_putPlace 32 = .ok (.iconst 2, 1) := by decide +kernel
theorem dX8_putPlace_33 : decode cX8_putPlace 33 = .ok (.imul, 1) := by decide +kernel
theorem dX8_putPlace_34 : decode cX8_putPlace 34 = .ok (.iconst 1, 1) := by decide +kernel
theorem dX8_putPlace_35 : decode cX8_putPlace 35 = .ok (.iadd, 1) := by decide +kernel
theorem dX8_putPlace_36 : decode cX8_putPlace 36 = .ok (.iaload, 1) := by decide +kernel
theorem dX8_putPlace_37 : decode cX8_putPlace 37 = .ok (.invokevirtual 452, 3) := by decide +kernel
theorem dX8_putPlace_40 : decode cX8_putPlace 40 = .ok (.iload_n 1, 1) := by decide +kernel
theorem dX8_putPlace_41 : decode cX8_putPlace 41 = .ok (.sipush 256, 3) := by decide +kernel
theorem dX8_putPlace_44 : decode cX8_putPlace 44 = .ok (.irem, 1) := by decide +kernel
theorem dX8_putPlace_45 : decode cX8_putPlace 45 = .ok (.istore_n 2, 1) := by decide +kernel
theorem dX8_putPlace_46 : decode cX8_putPlace 46 = .ok (.iload_n 2, 1) := by decide +kernel
theorem dX8_putPlace_47 : decode cX8_putPlace 47 = .ok (.bipush 99, 2) := by decide +kernel
theorem dX8_putPlace_49 : decode cX8_putPlace 49 = .ok (.if_icmp .le 14, 3) := by decide +kernel
theorem dX8_putPlace_52 : decode cX8_putPlace 52 = .ok (.aload_n 0, 1) := by decide +kernel
theorem dX8_putPlace_53 : decode cX8_putPlace 53 = .ok (.bipush 48, 2) := by decide +kernel
theorem dX8_putPlace_55 : decode cX8_putPlace 55 = .ok (.iload_n 2, 1) := by decide +kernel
theorem dX8_putPlace_56 : decode cX8_putPlace 56 = .ok (.bipush 100, 2) := by decide +kernel
theorem dX8_putPlace_58 : decode cX8_putPlace 58 = .ok (.idiv, 1) := by decide +kernel
theorem dX8_putPlace_59 : decode cX8_putPlace 59 = .ok (.iadd, 1) := by decide +kernel
theorem dX8_putPlace_60 : decode cX8_putPlace 60 = .ok (.invokevirtual 452, 3) := by decide +kernel
theorem dX8_putPlace_63 : decode cX8_putPlace 63 = .ok (.iload_n 2, 1) := by decide +kernel
theorem dX8_putPlace_64 : decode cX8_putPlace 64 = .ok (.bipush 9, 2) := by decide +kernel
theorem dX8_putPlace_66 : decode cX8_putPlace 66 = .ok (.if_icmp .le 17, 3) := by decide +kernel
theorem dX8_putPlace_69 : decode cX8_putPlace 69 = .ok (.aload_n 0, 1) := by decide +kernel
theorem dX8_putPlace_70 : decode cX8_putPlace 70 = .ok (.bipush 48, 2) := by decide +kernel
theorem dX8_putPlace_72 : decode cX8_putPlace 72 = .ok (.iload_n 2, 1) := by decide +kernel
theorem dX8_putPlace_73 : decode cX8_putPlace 73 = .ok (.bipush 10, 2) := by decide +kernel
theorem dX8_putPlace_75 : decode cX8_putPlace 75 = .ok (.idiv, 1) := by decide +kernel
theorem dX8_putPlace_76 : decode cX8_putPlace 76 = .ok (.bipush 10, 2) := by decide +kernel
theorem dX8_putPlace_78 : decode cX8_putPlace 78 = .ok (.irem, 1) := by decide +kernel
theorem dX8_putPlace_79 : decode cX8_putPlace 79 = .ok (.iadd, 1) := by decide +kernel
theorem dX8_putPlace_80 : decode cX8_putPlace 80 = .ok (.invokevirtual 452, 3) := by decide +kernel
theorem dX8_putPlace_83 : decode cX8_putPlace 83 = .ok (.aload_n 0, 1) := by decide +kernel
theorem dX8_putPlace_84 : decode cX8_putPlace 84 = .ok (.bipush 48, 2) := by decide +kernel
theorem dX8_putPlace_86 : decode cX8_putPlace 86 = .ok (.iload_n 2, 1) := by decide +kernel
theorem dX8_putPlace_87 : decode cX8_putPlace 87 = .ok (.bipush 10, 2) := by decide +kernel
theorem dX8_putPlace_89 : decode cX8_putPlace 89 = .ok (.irem, 1) := by decide +kernel
theorem dX8_putPlace_90 : decode cX8_putPlace 90 = .ok (.iadd, 1) := by decide +kernel
theorem dX8_putPlace_91 : decode cX8_putPlace 91 = .ok (.invokevirtual 452, 3) := by decide +kernel
theorem dX8_putPlace_94 : decode cX8_putPlace 94 = .ok (.return_, 1) := by decide +kernel

theorem dX8_second_0 : decode cX8_second 0 = .ok (.aload_n 0, 1) := by decide +kernel
theorem dX8_second_1 : decode cX8_second 1 = .ok (.getfield 53, 3) := by decide +kernel
theorem dX8_second_4 : decode cX8_second 4 = .ok (.aload_n 0, 1) := by decide +kernel
theorem dX8_second_5 : decode cX8_second 5 = .ok (.getfield 47, 3) := by decide +kernel
theorem dX8_second_8 : decode cX8_second 8 = .ok (.iload_n 1, 1) := by decide +kernel
theorem dX8_second_9 : decode cX8_second 9 = .ok (.iaload, 1) := by decide +kernel
theorem dX8_second_10 : decode cX8_second 10 = .ok (.iaload, 1) := by decide +kernel
theorem dX8_second_11 : decode cX8_second 11 = .ok (.ireturn, 1) := by decide +kernel

theorem dX8_itemOperand_0 : decode cX8_itemOperand 0 = .ok (.aload_n 0, 1) := by decide +kernel
theorem dX8_itemOperand_1 : decode cX8_itemOperand 1 = .ok (.getfield 35, 3) := by decide +kernel
theorem dX8_itemOperand_4 : decode cX8_itemOperand 4 = .ok (.iload_n 1, 1) := by decide +kernel
theorem dX8_itemOperand_5 : decode cX8_itemOperand 5 = .ok (.iaload, 1) := by decide +kernel
theorem dX8_itemOperand_6 : decode cX8_itemOperand 6 = .ok (.bipush 35, 2) := by decide +kernel
theorem dX8_itemOperand_8 : decode cX8_itemOperand 8 = .ok (.if_icmp .ne 7, 3) := by decide +kernel
theorem dX8_itemOperand_11 : decode cX8_itemOperand 11 = .ok (.iconst 1, 1) := by decide +kernel
theorem dX8_itemOperand_12 : decode cX8_itemOperand 12 = .ok (.goto 4, 3) := by decide +kernel
theorem dX8_itemOperand_15 : decode cX8_itemOperand 15 = .ok (.iconst 0, 1) := by decide +kernel
theorem dX8_itemOperand_16 : decode cX8_itemOperand 16 = .ok (.istore 4, 2) := by decide +kernel
theorem dX8_itemOperand_18 : decode cX8_itemOperand 18 = .ok (.iload 4, 2) := by decide +kernel
theorem dX8_itemOperand_20 : decode cX8_itemOperand 20 = .ok (.ifCond .eq 15, 3) := by decide +kernel
theorem dX8_itemOperand_23 : decode cX8_itemOperand 23 = .ok (.aload_n 0, 1) := by decide +kernel
theorem dX8_itemOperand_24 : decode cX8_itemOperand 24 = .ok (.getfield 41, 3) := by decide +kernel
theorem dX8_itemOperand_27 : decode cX8_itemOperand 27 = .ok (.iload_n 1, 1) := by decide +kernel
theorem dX8_itemOperand_28 : decode cX8_itemOperand 28 = .ok (.iaload, 1) := by decide +kernel
theorem dX8_itemOperand_29 : decode cX8_itemOperand 29 = .ok (.invokestatic 311, 3) := by decide +kernel
theorem dX8_itemOperand_32 : decode cX8_itemOperand 32 = .ok (.goto 4, 3) := by decide +kernel
theorem dX8_itemOperand_35 : decode cX8_itemOperand 35 = .ok (.iconst 0, 1) := by decide +kernel
theorem dX8_itemOperand_36 : decode cX8_itemOperand 36 = .ok (.istore 5, 2) := by decide +kernel
theorem dX8_itemOperand_38 : decode cX8_itemOperand 38 = .ok (.aload_n 0, 1) := by decide +kernel
theorem dX8_itemOperand_39 : decode cX8_itemOperand 39 = .ok (.getfield 35, 3) := by decide +kernel
theorem dX8_itemOperand_42 : decode cX8_itemOperand 42 = .ok (.iload_n 2, 1) := by decide +kernel
theorem dX8_itemOperand_43 : decode cX8_itemOperand 43 = .ok (.iaload, 1) := by decide +kernel
theorem dX8_itemOperand_44 : decode cX8_itemOperand 44 = .ok (.bipush 36, 2) := by decide +kernel
theorem dX8_itemOperand_46 : decode cX8_itemOperand 46 = .ok (.if_icmp .ne 8, 3) := by decide +kernel
theorem dX8_itemOperand_49 : decode cX8_itemOperand 49 = .ok (.bipush 8, 2) := by decide +kernel
theorem dX8_itemOperand_51 : decode cX8_itemOperand 51 = .ok (.goto 12, 3) := by decide +kernel
theorem dX8_itemOperand_54 : decode cX8_itemOperand 54 = .ok (.aload_n 0, 1) := by decide +kernel
theorem dX8_itemOperand_55 : decode cX8_itemOperand 55 = .ok (.getfield 41, 3) := by decide +kernel
theorem dX8_itemOperand_58 : decode cX8_itemOperand 58 = .ok (.iload_n 2, 1) := by decide +kernel
theorem dX8_itemOperand_59 : decode cX8_itemOperand 59 = .ok (.iaload, 1) := by decide +kernel
theorem dX8_itemOperand_60 : decode cX8_itemOperand 60 = .ok (.invokestatic 311, 3) := by decide +kernel
theorem dX8_itemOperand_63 : decode cX8_itemOperand 63 = .ok (.istore 6, 2) := by decide +kernel
theorem dX8_itemOperand_65 : decode cX8_itemOperand 65 = .ok (.iload 4, 2) := by decide +kernel
theorem dX8_itemOperand_67 : decode cX8_itemOperand 67 = .ok (.ifCond .eq 25, 3) := by decide +kernel
theorem dX8_itemOperand_70 : decode cX8_itemOperand 70 = .ok (.iload 6, 2) := by decide +kernel
theorem dX8_itemOperand_72 : decode cX8_itemOperand 72 = .ok (.iload 5, 2) := by decide +kernel
theorem dX8_itemOperand_74 : decode cX8_itemOperand 74 = .ok (.if_icmp .gt 14, 3) := by decide +kernel
theorem dX8_itemOperand_77 : decode cX8_itemOperand 77 = .ok (.iload_n 3, 1) := by decide +kernel
theorem dX8_itemOperand_78 : decode cX8_itemOperand 78 = .ok (.ifCond .eq 14, 3) := by decide +kernel
theorem dX8_itemOperand_81 : decode cX8_itemOperand 81 = .ok (.iload 6, 2) := by decide +kernel
theorem dX8_itemOperand_83 : decode cX8_itemOperand 83 = .ok (.iload 5, 2) := by decide +kernel
theorem dX8_itemOperand_85 : decode cX8_itemOperand 85 = .ok (.if_icmp .ne 7, 3) := by decide +kernel
theorem dX8_itemOperand_88 : decode cX8_itemOperand 88 = .ok (.iconst 1, 1) := by decide +kernel
theorem dX8_itemOperand_89 : decode cX8_itemOperand 89 = .ok (.goto 4, 3) := by decide +kernel
theorem dX8_itemOperand_92 : decode cX8_itemOperand 92 = .ok (.iconst 0, 1) := by decide +kernel
theorem dX8_itemOperand_93 : decode cX8_itemOperand 93 = .ok (.istore 7, 2) := by decide +kernel
theorem dX8_itemOperand_95 : decode cX8_itemOperand 95 = .ok (.iload 7, 2) := by decide +kernel
theorem dX8_itemOperand_97 : decode cX8_itemOperand 97 = .ok (.ifCond .eq 10, 3) := by decide +kernel
theorem dX8_itemOperand_100 : decode cX8_itemOperand 100 = .ok (.aload_n 0, 1) := by decide +kernel
theorem dX8_itemOperand_101 : decode cX8_itemOperand 101 = .ok (.iconst 0, 1) := by decide +kernel
theorem dX8_itemOperand_102 : decode cX8_itemOperand 102 = .ok (.bipush 56, 2) := by decide +kernel
theorem dX8_itemOperand_104 : decode cX8_itemOperand 104 = .ok (.invokevirtual 462, 3) := by decide +kernel
theorem dX8_itemOperand_107 : decode cX8_itemOperand 107 = .ok (.aload_n 0, 1) := by decide +kernel
theorem dX8_itemOperand_108 : decode cX8_itemOperand 108 = .ok (.iconst 1, 1) := by decide +kernel
theorem dX8_itemOperand_109 : decode cX8_itemOperand 109 = .ok (.iload_n 1, 1) := by decide +kernel
theorem dX8_itemOperand_110 : decode cX8_itemOperand 110 = .ok (.invokevirtual 462, 3) := by decide +kernel
theorem dX8_itemOperand_113 : decode cX8_itemOperand 113 = .ok (.iload 7, 2) := by decide +kernel
theorem dX8_itemOperand_115 : decode cX8_itemOperand 115 = .ok (.ifCond .eq 10, 3) := by decide +kernel
theorem dX8_itemOperand_118 : decode cX8_itemOperand 118 = .ok (.aload_n 0, 1) := by decide +kernel
theorem dX8_itemOperand_119 : decode cX8_itemOperand 119 = .ok (.iconst 0, 1) := by decide +kernel
theorem dX8_itemOperand_120 : decode cX8_itemOperand 120 = .ok (.bipush 55, 2) := by decide +kernel
theorem dX8_itemOperand_122 : decode cX8_itemOperand 122 = .ok (.invokevirtual 462, 3) := by decide +kernel
theorem dX8_itemOperand_125 : decode cX8_itemOperand 125 = .ok (.return_, 1) := by decide +kernel

theorem dX8_tokenOf_0 : decode cX8_tokenOf 0 = .ok (.iload_n 0, 1) := by decide +kernel
theorem dX8_tokenOf_1 : decode cX8_tokenOf 1 = .ok (.tableswitch 106 0 12 #[67, 70, 73, 76, 79, 82, 85, 88, 91, 94, 97, 100, 103], 67) := by decide +kernel
theorem dX8_tokenOf_68 : decode cX8_tokenOf 68 = .ok (.bipush 30, 2) := by decide +kernel
theorem dX8_tokenOf_70 : decode cX8_tokenOf 70 = .ok (.ireturn, 1) := by decide +kernel
theorem dX8_tokenOf_71 : decode cX8_tokenOf 71 = .ok (.bipush 31, 2) := by decide +kernel
theorem dX8_tokenOf_73 : decode cX8_tokenOf 73 = .ok (.ireturn, 1) := by decide +kernel
theorem dX8_tokenOf_74 : decode cX8_tokenOf 74 = .ok (.bipush 70, 2) := by decide +kernel
theorem dX8_tokenOf_76 : decode cX8_tokenOf 76 = .ok (.ireturn, 1) := by decide +kernel
theorem dX8_tokenOf_77 : decode cX8_tokenOf 77 = .ok (.bipush 67, 2) := by decide +kernel
theorem dX8_tokenOf_79 : decode cX8_tokenOf 79 = .ok (.ireturn, 1) := by decide +kernel
theorem dX8_tokenOf_80 : decode cX8_tokenOf 80 = .ok (.bipush 54, 2) := by decide +kernel
theorem dX8_tokenOf_82 : decode cX8_tokenOf 82 = .ok (.ireturn, 1) := by decide +kernel
theorem dX8_tokenOf_83 : decode cX8_tokenOf 83 = .ok (.bipush 68, 2) := by decide +kernel
theorem dX8_tokenOf_85 : decode cX8_tokenOf 85 = .ok (.ireturn, 1) := by decide +kernel
theorem dX8_tokenOf_86 : decode cX8_tokenOf 86 = .ok (.bipush 69, 2) := by decide +kernel
theorem dX8_tokenOf_88 : decode cX8_tokenOf 88 = .ok (.ireturn, 1) := by decide +kernel
theorem dX8_tokenOf_89 : decode cX8_tokenOf 89 = .ok (.bipush 52, 2) := by decide +kernel
theorem dX8_tokenOf_91 : decode cX8_tokenOf 91 = .ok (.ireturn, 1) := by decide +kernel
theorem dX8_tokenOf_92 : decode cX8_tokenOf 92 = .ok (.bipush 53, 2) := by decide +kernel
theorem dX8_tokenOf_94 : decode cX8_tokenOf 94 = .ok (.ireturn, 1) := by decide +kernel
theorem dX8_tokenOf_95 : decode cX8_tokenOf 95 = .ok (.bipush 63, 2) := by decide +kernel
theorem dX8_tokenOf_97 : decode cX8_tokenOf 97 = .ok (.ireturn, 1) := by decide +kernel
theorem dX8_tokenOf_98 : decode cX8_tokenOf 98 = .ok (.bipush 64, 2) := by decide +kernel
theorem dX8_tokenOf_100 : decode cX8_tokenOf 100 = .ok (.ireturn, 1) := by decide +kernel
theorem dX8_tokenOf_101 : decode cX8_tokenOf 101 = .ok (.bipush 65, 2) := by decide +kernel
theorem dX8_tokenOf_103 : decode cX8_tokenOf 103 = .ok (.ireturn, 1) := by decide +kernel
theorem dX8_tokenOf_104 : decode cX8_tokenOf 104 = .ok (.bipush 66, 2) := by decide +kernel
theorem dX8_tokenOf_106 : decode cX8_tokenOf 106 = .ok (.ireturn, 1) := by decide +kernel
theorem dX8_tokenOf_107 : decode cX8_tokenOf 107 = .ok (.bipush 33, 2) := by decide +kernel
theorem dX8_tokenOf_109 : decode cX8_tokenOf 109 = .ok (.ireturn, 1) := by decide +kernel

theorem dX8_itemBlock_0 : decode cX8_itemBlock 0 = .ok (.aload_n 0, 1) := by decide +kernel
theorem dX8_itemBlock_1 : decode cX8_itemBlock 1 = .ok (.iconst 0, 1) := by decide +kernel
theorem dX8_itemBlock_2 : decode cX8_itemBlock 2 = .ok (.iload_n 3, 1) := by decide +kernel
theorem dX8_itemBlock_3 : decode cX8_itemBlock 3 = .ok (.invokevirtual 462, 3) := by decide +kernel
theorem dX8_itemBlock_6 : decode cX8_itemBlock 6 = .ok (.aload_n 0, 1) := by decide +kernel
theorem dX8_itemBlock_7 : decode cX8_itemBlock 7 = .ok (.getfield 35, 3) := by decide +kernel
theorem dX8_itemBlock_10 : decode cX8_itemBlock 10 = .ok (.iload_n 1, 1) := by decide +kernel
theorem dX8_itemBlock_11 : decode cX8_itemBlock 11 = .ok (.iaload, 1) := by decide +kernel
theorem dX8_itemBlock_12 : decode cX8_itemBlock 12 = .ok (.iconst 1, 1) := by decide +kernel
theorem dX8_itemBlock_13 : decode cX8_itemBlock 13 = .ok (.if_icmp .ne 34, 3) := by decide +kernel
theorem dX8_itemBlock_16 : decode cX8_itemBlock 16 = .ok (.aload_n 0, 1) := by decide +kernel
theorem dX8_itemBlock_17 : decode cX8_itemBlock 17 = .ok (.iconst 2, 1) := by decide +kernel
theorem dX8_itemBlock_18 : decode cX8_itemBlock 18 = .ok (.aload_n 0, 1) := by decide +kernel
theorem dX8_itemBlock_19 : decode cX8_itemBlock 19 = .ok (.iload_n 1, 1) := by decide +kernel
theorem dX8_itemBlock_20 : decode cX8_itemBlock 20 = .ok (.invokevirtual 465, 3) := by decide +kernel
theorem dX8_itemBlock_23 : decode cX8_itemBlock 23 = .ok (.invokevirtual 462, 3) := by decide +kernel
theorem dX8_itemBlock_26 : decode cX8_itemBlock 26 = .ok (.aload_n 0, 1) := by decide +kernel
theorem dX8_itemBlock_27 : decode cX8_itemBlock 27 = .ok (.iconst 1, 1) := by decide +kernel
theorem dX8_itemBlock_28 : decode cX8_itemBlock 28 = .ok (.aload_n 0, 1) := by decide +kernel
theorem dX8_itemBlock_29 : decode cX8_itemBlock 29 = .ok (.getfield 47, 3) := by decide +kernel
theorem dX8_itemBlock_32 : decode cX8_itemBlock 32 = .ok (.iload_n 1, 1) := by decide +kernel
theorem dX8_itemBlock_33 : decode cX8_itemBlock 33 = .ok (.iaload, 1) := by decide +kernel
theorem dX8_itemBlock_34 : decode cX8_itemBlock 34 = .ok (.invokevirtual 462, 3) := by decide +kernel
theorem dX8_itemBlock_37 : decode cX8_itemBlock 37 = .ok (.aload_n 0, 1) := by decide +kernel
theorem dX8_itemBlock_38 : decode cX8_itemBlock 38 = .ok (.iconst 0, 1) := by decide +kernel
theorem dX8_itemBlock_39 : decode cX8_itemBlock 39 = .ok (.bipush 61, 2) := by decide +kernel
theorem dX8_itemBlock_41 : decode cX8_itemBlock 41 = .ok (.invokevirtual 462, 3) := by decide +kernel
theorem dX8_itemBlock_44 : decode cX8_itemBlock 44 = .ok (.goto 14, 3) := by decide +kernel
theorem dX8_itemBlock_47 : decode cX8_itemBlock 47 = .ok (.aload_n 0, 1) := by decide +kernel
theorem dX8_itemBlock_48 : decode cX8_itemBlock 48 = .ok (.iconst 2, 1) := by decide +kernel
theorem dX8_itemBlock_49 : decode cX8_itemBlock 49 = .ok (.aload_n 0, 1) := by decide +kernel
theorem dX8_itemBlock_50 : decode cX8_itemBlock 50 = .ok (.getfield 47, 3) := by decide +kernel
theorem dX8_itemBlock_53 : decode cX8_itemBlock 53 = .ok (.iload_n 1, 1) := by decide +kernel
theorem dX8_itemBlock_54 : decode cX8_itemBlock 54 = .ok (.iaload, 1) := by decide +kernel
theorem dX8_itemBlock_55 : decode cX8_itemBlock 55 = .ok (.invokevirtual 462, 3) := by decide +kernel
theorem dX8_itemBlock_58 : decode cX8_itemBlock 58 = .ok (.aload_n 0, 1) := by decide +kernel
theorem dX8_itemBlock_59 : decode cX8_itemBlock 59 = .ok (.bipush 8, 2) := by decide +kernel
theorem dX8_itemBlock_61 : decode cX8_itemBlock 61 = .ok (.aload_n 0, 1) := by decide +kernel
theorem dX8_itemBlock_62 : decode cX8_itemBlock 62 = .ok (.getfield 41, 3) := by decide +kernel
theorem dX8_itemBlock_65 : decode cX8_itemBlock 65 = .ok (.iload_n 1, 1) := by decide +kernel
theorem dX8_itemBlock_66 : decode cX8_itemBlock 66 = .ok (.iaload, 1) := by decide +kernel
theorem dX8_itemBlock_67 : decode cX8_itemBlock 67 = .ok (.invokevirtual 462, 3) := by decide +kernel
theorem dX8_itemBlock_70 : decode cX8_itemBlock 70 = .ok (.aload_n 0, 1) := by decide +kernel
theorem dX8_itemBlock_71 : decode cX8_itemBlock 71 = .ok (.iconst 0, 1) := by decide +kernel
theorem dX8_itemBlock_72 : decode cX8_itemBlock 72 = .ok (.iload_n 2, 1) := by decide +kernel
theorem dX8_itemBlock_73 : decode cX8_itemBlock 73 = .ok (.invokevirtual 462, 3) := by decide +kernel
theorem dX8_itemBlock_76 : decode cX8_itemBlock 76 = .ok (.return_, 1) := by decide +kernel

theorem dX8_itemFor_0 : decode cX8_itemFor 0 = .ok (.aload_n 0, 1) := by decide +kernel
theorem dX8_itemFor_1 : decode cX8_itemFor 1 = .ok (.getfield 47, 3) := by decide +kernel
theorem dX8_itemFor_4 : decode cX8_itemFor 4 = .ok (.iload_n 1, 1) := by decide +kernel
theorem dX8_itemFor_5 : decode cX8_itemFor 5 = .ok (.iaload, 1) := by decide +kernel
theorem dX8_itemFor_6 : decode cX8_itemFor 6 = .ok (.istore_n 2, 1) := by decide +kernel
theorem dX8_itemFor_7 : decode cX8_itemFor 7 = .ok (.aload_n 0, 1) := by decide +kernel
theorem dX8_itemFor_8 : decode cX8_itemFor 8 = .ok (.getfield 53, 3) := by decide +kernel
theorem dX8_itemFor_11 : decode cX8_itemFor 11 = .ok (.iload_n 2, 1) := by decide +kernel
theorem dX8_itemFor_12 : decode cX8_itemFor 12 = .ok (.iaload, 1) := by decide +kernel
theorem dX8_itemFor_13 : decode cX8_itemFor 13 = .ok (.istore_n 3, 1) := by decide +kernel
theorem dX8_itemFor_14 : decode cX8_itemFor 14 = .ok (.aload_n 0, 1) := by decide +kernel
theorem dX8_itemFor_15 : decode cX8_itemFor 15 = .ok (.getfield 53, 3) := by decide +kernel
theorem dX8_itemFor_18 : decode cX8_itemFor 18 = .ok (.iload_n 3, 1) := by decide +kernel
theorem dX8_itemFor_19 : decode cX8_itemFor 19 = .ok (.iaload, 1) := by decide +kernel
theorem dX8_itemFor_20 : decode cX8_itemFor 20 = .ok (.istore 4, 2) := by decide +kernel
theorem dX8_itemFor_22 : decode cX8_itemFor 22 = .ok (.aload_n 0, 1) := by decide +kernel
theorem dX8_itemFor_23 : decode cX8_itemFor 23 = .ok (.iconst 0, 1) := by decide +kernel
theorem dX8_itemFor_24 : decode cX8_itemFor 24 = .ok (.bipush 60, 2) := by decide +kernel
theorem dX8_itemFor_26 : decode cX8_itemFor 26 = .ok (.invokevirtual 462, 3) := by decide +kernel
theorem dX8_itemFor_29 : decode cX8_itemFor 29 = .ok (.aload_n 0, 1) := by decide +kernel
theorem dX8_itemFor_30 : decode cX8_itemFor 30 = .ok (.iconst 0, 1) := by decide +kernel
theorem dX8_itemFor_31 : decode cX8_itemFor 31 = .ok (.bipush 27, 2) := by decide +kernel
theorem dX8_itemFor_33 : decode cX8_itemFor 33 = .ok (.invokevirtual 462, 3) := by decide +kernel
theorem dX8_itemFor_36 : decode cX8_itemFor 36 = .ok (.aload_n 0, 1) := by decide +kernel
theorem dX8_itemFor_37 : decode cX8_itemFor 37 = .ok (.iconst 1, 1) := by decide +kernel
theorem dX8_itemFor_38 : decode cX8_itemFor 38 = .ok (.aload_n 0, 1) := by decide +kernel
theorem dX8_itemFor_39 : decode cX8_itemFor 39 = .ok (.getfield 35, 3) := by decide +kernel
theorem dX8_itemFor_42 : decode cX8_itemFor 42 = .ok (.iload 4, 2) := by decide +kernel
theorem dX8_itemFor_44 : decode cX8_itemFor 44 = .ok (.iaload, 1) := by decide +kernel
theorem dX8_itemFor_45 : decode cX8_itemFor 45 = .ok (.bipush 11, 2) := by decide +kernel
theorem dX8_itemFor_47 : decode cX8_itemFor 47 = .ok (.if_icmp .ne 8, 3) := by decide +kernel
theorem dX8_itemFor_50 : decode cX8_itemFor 50 = .ok (.iload 4, 2) := by decide +kernel
theorem dX8_itemFor_52 : decode cX8_itemFor 52 = .ok (.goto 10, 3) := by decide +kernel
theorem dX8_itemFor_55 : decode cX8_itemFor 55 = .ok (.aload_n 0, 1) := by decide +kernel
theorem dX8_itemFor_56 : decode cX8_itemFor 56 = .ok (.getfield 53, 3) := by decide +kernel
theorem dX8_itemFor_59 : decode cX8_itemFor 59 = .ok (.iload 4, 2) := by decide +kernel
theorem dX8_itemFor_61 : decode cX8_itemFor 61 = .ok (.iaload, 1) := by decide +kernel
theorem dX8_itemFor_62 : decode cX8_itemFor 62 = .ok (.invokevirtual 462, 3) := by decide +kernel
theorem dX8_itemFor_65 : decode cX8_itemFor 65 = .ok (.aload_n 0, 1) := by decide +kernel
theorem dX8_itemFor_66 : decode cX8_itemFor 66 = .ok (.iconst 0, 1) := by decide +kernel
theorem dX8_itemFor_67 : decode cX8_itemFor 67 = .ok (.bipush 26, 2) := by decide +kernel
theorem dX8_itemFor_69 : decode cX8_itemFor 69 = .ok (.invokevirtual 462, 3) := by decide +kernel
theorem dX8_itemFor_72 : decode cX8_itemFor 72 = .ok (.aload_n 0, 1) := by decide +kernel
theorem dX8_itemFor_73 : decode cX8_itemFor 73 = .ok (.getfield 35, 3) := by decide +kernel
theorem dX8_itemFor_76 : decode cX8_itemFor 76 = .ok (.iload 4, 2) := by decide +kernel
theorem dX8_itemFor_78 : decode cX8_itemFor 78 = .ok (.iaload, 1) := by decide +kernel
theorem dX8_itemFor_79 : decode cX8_itemFor 79 = .ok (.bipush 11, 2) := by decide +kernel
theorem dX8_itemFor_81 : decode cX8_itemFor 81 = .ok (.if_icmp .eq 17, 3) := by decide +kernel
theorem dX8_itemFor_84 : decode cX8_itemFor 84 = .ok (.aload_n 0, 1) := by decide +kernel
theorem dX8_itemFor_85 : decode cX8_itemFor 85 = .ok (.iconst 1, 1) := by decide +kernel
theorem dX8_itemFor_86 : decode cX8_itemFor 86 = .ok (.iload 4, 2) := by decide +kernel
theorem dX8_itemFor_88 : decode cX8_itemFor 88 = .ok (.invokevirtual 462, 3) := by decide +kernel
theorem dX8_itemFor_91 : decode cX8_itemFor 91 = .ok (.aload_n 0, 1) := by decide +kernel
theorem dX8_itemFor_92 : decode cX8_itemFor 92 = .ok (.iconst 0, 1) := by decide +kernel
theorem dX8_itemFor_93 : decode cX8_itemFor 93 = .ok (.bipush 25, 2) := by decide +kernel
theorem dX8_itemFor_95 : decode cX8_itemFor 95 = .ok (.invokevirtual 462, 3) := by decide +kernel
theorem dX8_itemFor_98 : decode cX8_itemFor 98 = .ok (.aload_n 0, 1) := by decide +kernel
theorem dX8_itemFor_99 : decode cX8_itemFor 99 = .ok (.iconst 1, 1) := by decide +kernel
theorem dX8_itemFor_100 : decode cX8_itemFor 100 = .ok (.iload_n 3, 1) := by decide +kernel
theorem dX8_itemFor_101 : decode cX8_itemFor 101 = .ok (.invokevirtual 462, 3) := by decide +kernel
theorem dX8_itemFor_104 : decode cX8_itemFor 104 = .ok (.aload_n 0, 1) := by decide +kernel
theorem dX8_itemFor_105 : decode cX8_itemFor 105 = .ok (.iconst 0, 1) := by decide +kernel
theorem dX8_itemFor_106 : decode cX8_itemFor 106 = .ok (.bipush 24, 2) := by decide +kernel
theorem dX8_itemFor_108 : decode cX8_itemFor 108 = .ok (.invokevirtual 462, 3) := by decide +kernel
theorem dX8_itemFor_111 : decode cX8_itemFor 111 = .ok (.aload_n 0, 1) := by decide +kernel
theorem dX8_itemFor_112 : decode cX8_itemFor 112 = .ok (.iconst 1, 1) := by decide +kernel
theorem dX8_itemFor_113 : decode cX8_itemFor 113 = .ok (.iload_n 2, 1) := by decide +kernel
theorem dX8_itemFor_114 : decode cX8_itemFor 114 = .ok (.invokevirtual 462, 3) := by decide +kernel
theorem dX8_itemFor_117 : decode cX8_itemFor 117 = .ok (.aload_n 0, 1) := by decide +kernel
theorem dX8_itemFor_118 : decode cX8_itemFor 118 = .ok (.iconst 0, 1) := by decide +kernel
theorem dX8_itemFor_119 : decode cX8_itemFor 119 = .ok (.bipush 50, 2) := by decide +kernel
theorem dX8_itemFor_121 : decode cX8_itemFor 121 = .ok (.invokevirtual 462, 3) := by decide +kernel
theorem dX8_itemFor_124 : decode cX8_itemFor 124 = .ok (.aload_n 0, 1) := by decide +kernel
theorem dX8_itemFor_125 : decode cX8_itemFor 125 = .ok (.bipush 8, 2) := by decide +kernel
theorem dX8_itemFor_127 : decode cX8_itemFor 127 = .ok (.aload_n 0, 1) := by decide +kernel
theorem dX8_itemFor_128 : decode cX8_itemFor 128 = .ok (.getfield 41, 3) := by decide +kernel
theorem dX8_itemFor_131 : decode cX8_itemFor 131 = .ok (.iload_n 1, 1) := by decide +kernel
theorem dX8_itemFor_132 : decode cX8_itemFor 132 = .ok (.iaload, 1) := by decide +kernel
theorem dX8_itemFor_133 : decode cX8_itemFor 133 = .ok (.invokevirtual 462, 3) := by decide +kernel
theorem dX8_itemFor_136 : decode cX8_itemFor 136 = .ok (.aload_n 0, 1) := by decide +kernel
theorem dX8_itemFor_137 : decode cX8_itemFor 137 = .ok (.iconst 0, 1) := by decide +kernel
theorem dX8_itemFor_138 : decode cX8_itemFor 138 = .ok (.bipush 23, 2) := by decide +kernel
theorem dX8_itemFor_140 : decode cX8_itemFor 140 = .ok (.invokevirtual 462, 3) := by decide +kernel
theorem dX8_itemFor_143 : decode cX8_itemFor 143 = .ok (.return_, 1) := by decide +kernel

theorem dX8_itemArray_0 : decode cX8_itemArray 0 = .ok (.aload_n 0, 1) := by decide +kernel
theorem dX8_itemArray_1 : decode cX8_itemArray 1 = .ok (.iconst 1, 1) := by decide +kernel
theorem dX8_itemArray_2 : decode cX8_itemArray 2 = .ok (.aload_n 0, 1) := by decide +kernel
theorem dX8_itemArray_3 : decode cX8_itemArray 3 = .ok (.getfield 53, 3) := by decide +kernel
theorem dX8_itemArray_6 : decode cX8_itemArray 6 = .ok (.aload_n 0, 1) := by decide +kernel
theorem dX8_itemArray_7 : decode cX8_itemArray 7 = .ok (.iload_n 1, 1) := by decide +kernel
theorem dX8_itemArray_8 : decode cX8_itemArray 8 = .ok (.invokevirtual 465, 3) := by decide +kernel
theorem dX8_itemArray_11 : decode cX8_itemArray 11 = .ok (.iaload, 1) := by decide +kernel
theorem dX8_itemArray_12 : decode cX8_itemArray 12 = .ok (.invokevirtual 462, 3) := by decide +kernel
theorem dX8_itemArray_15 : decode cX8_itemArray 15 = .ok (.aload_n 0, 1) := by decide +kernel
theorem dX8_itemArray_16 : decode cX8_itemArray 16 = .ok (.iconst 0, 1) := by decide +kernel
theorem dX8_itemArray_17 : decode cX8_itemArray 17 = .ok (.bipush 15, 2) := by decide +kernel
theorem dX8_itemArray_19 : decode cX8_itemArray 19 = .ok (.invokevirtual 462, 3) := by decide +kernel
theorem dX8_itemArray_22 : decode cX8_itemArray 22 = .ok (.aload_n 0, 1) := by decide +kernel
theorem dX8_itemArray_23 : decode cX8_itemArray 23 = .ok (.iconst 0, 1) := by decide +kernel
theorem dX8_itemArray_24 : decode cX8_itemArray 24 = .ok (.bipush 58, 2) := by decide +kernel
theorem dX8_itemArray_26 : decode cX8_itemArray 26 = .ok (.invokevirtual 462, 3) := by decide +kernel
theorem dX8_itemArray_29 : decode cX8_itemArray 29 = .ok (.aload_n 0, 1) := by decide +kernel
theorem dX8_itemArray_30 : decode cX8_itemArray 30 = .ok (.iconst 1, 1) := by decide +kernel
theorem dX8_itemArray_31 : decode cX8_itemArray 31 = .ok (.aload_n 0, 1) := by decide +kernel
theorem dX8_itemArray_32 : decode cX8_itemArray 32 = .ok (.iload_n 1, 1) := by decide +kernel
theorem dX8_itemArray_33 : decode cX8_itemArray 33 = .ok (.invokevirtual 465, 3) := by decide +kernel
theorem dX8_itemArray_36 : decode cX8_itemArray 36 = .ok (.invokevirtual 462, 3) := by decide +kernel
theorem dX8_itemArray_39 : decode cX8_itemArray 39 = .ok (.aload_n 0, 1) := by decide +kernel
theorem dX8_itemArray_40 : decode cX8_itemArray 40 = .ok (.iconst 0, 1) := by decide +kernel
theorem dX8_itemArray_41 : decode cX8_itemArray 41 = .ok (.bipush 51, 2) := by decide +kernel
theorem dX8_itemArray_43 : decode cX8_itemArray 43 = .ok (.invokevirtual 462, 3) := by decide +kernel
theorem dX8_itemArray_46 : decode cX8_itemArray 46 = .ok (.aload_n 0, 1) := by decide +kernel
theorem dX8_itemArray_47 : decode cX8_itemArray 47 = .ok (.iconst 1, 1) := by decide +kernel
theorem dX8_itemArray_48 : decode cX8_itemArray 48 = .ok (.aload_n 0, 1) := by decide +kernel
theorem dX8_itemArray_49 : decode cX8_itemArray 49 = .ok (.getfield 47, 3) := by decide +kernel
theorem dX8_itemArray_52 : decode cX8_itemArray 52 = .ok (.iload_n 1, 1) := by decide +kernel
theorem dX8_itemArray_53 : decode cX8_itemArray 53 = .ok (.iaload, 1) := by decide +kernel
theorem dX8_itemArray_54 : decode cX8_itemArray 54 = .ok (.invokevirtual 462, 3) := by decide +kernel
theorem dX8_itemArray_57 : decode cX8_itemArray 57 = .ok (.aload_n 0, 1) := by decide +kernel
theorem dX8_itemArray_58 : decode cX8_itemArray 58 = .ok (.iconst 0, 1) := by decide +kernel
theorem dX8_itemArray_59 : decode cX8_itemArray 59 = .ok (.bipush 57, 2) := by decide +kernel
theorem dX8_itemArray_61 : decode cX8_itemArray 61 = .ok (.invokevirtual 462, 3) := by decide +kernel
theorem dX8_itemArray_64 : decode cX8_itemArray 64 = .ok (.aload_n 0, 1) := by decide +kernel
theorem dX8_itemArray_65 : decode cX8_itemArray 65 = .ok (.iconst 0, 1) := by decide +kernel
theorem dX8_itemArray_66 : decode cX8_itemArray 66 = .ok (.bipush 14, 2) := by decide +kernel
theorem dX8_itemArray_68 : decode cX8_itemArray 68 = .ok (.invokevirtual 462, 3) := by decide +kernel
theorem dX8_itemArray_71 : decode cX8_itemArray 71 = .ok (.return_, 1) := by decide +kernel

theorem dX8_itemAll_0 : decode cX8_itemAll 0 = .ok (.iload_n 1, 1) := by decide +kernel
theorem dX8_itemAll_1 : decode cX8_itemAll 1 = .ok (.iconst (-1), 1) := by decide +kernel
theorem dX8_itemAll_2 : decode cX8_itemAll 2 = .ok (.if_icmp .eq 9, 3) := by decide +kernel
theorem dX8_itemAll_5 : decode cX8_itemAll 5 = .ok (.aload_n 0, 1) := by decide +kernel
theorem dX8_itemAll_6 : decode cX8_itemAll 6 = .ok (.iconst 0, 1) := by decide +kernel
theorem dX8_itemAll_7 : decode cX8_itemAll 7 = .ok (.iload_n 1, 1) := by decide +kernel
theorem dX8_itemAll_8 : decode cX8_itemAll 8 = .ok (.invokevirtual 462, 3) := by decide +kernel
theorem dX8_itemAll_11 : decode cX8_itemAll 11 = .ok (.aload_n 0, 1) := by decide +kernel
theorem dX8_itemAll_12 : decode cX8_itemAll 12 = .ok (.iload_n 2, 1) := by decide +kernel
theorem dX8_itemAll_13 : decode cX8_itemAll 13 = .ok (.aload_n 0, 1) := by decide +kernel
theorem dX8_itemAll_14 : decode cX8_itemAll 14 = .ok (.getfield 47, 3) := by decide +kernel
theorem dX8_itemAll_17 : decode cX8_itemAll 17 = .ok (.iload_n 3, 1) := by decide +kernel
theorem dX8_itemAll_18 : decode cX8_itemAll 18 = .ok (.iaload, 1) := by decide +kernel
theorem dX8_itemAll_19 : decode cX8_itemAll 19 = .ok (.invokevirtual 462, 3) := by decide +kernel
theorem dX8_itemAll_22 : decode cX8_itemAll 22 = .ok (.iload 4, 2) := by decide +kernel
theorem dX8_itemAll_24 : decode cX8_itemAll 24 = .ok (.iconst (-1), 1) := by decide +kernel
theorem dX8_itemAll_25 : decode cX8_itemAll 25 = .ok (.if_icmp .eq 10, 3) := by decide +kernel
theorem dX8_itemAll_28 : decode cX8_itemAll 28 = .ok (.aload_n 0, 1) := by decide +kernel
theorem dX8_itemAll_29 : decode cX8_itemAll 29 = .ok (.iconst 0, 1) := by decide +kernel
theorem dX8_itemAll_30 : decode cX8_itemAll 30 = .ok (.iload 4, 2) := by decide +kernel
theorem dX8_itemAll_32 : decode cX8_itemAll 32 = .ok (.invokevirtual 462, 3) := by decide +kernel
theorem dX8_itemAll_35 : decode cX8_itemAll 35 = .ok (.return_, 1) := by decide +kernel
