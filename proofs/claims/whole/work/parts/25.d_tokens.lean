theorem dX2_kind_0 : decode cX2_kind 0 = .ok (.iload_n 1, 1) := by decide +kernel
theorem dX2_kind_1 : decode cX2_kind 1 = .ok (.ifCond .lt 27, 3) := by decide +kernel
theorem dX2_kind_4 : decode cX2_kind 4 = .ok (.iload_n 1, 1) := by decide +kernel
theorem dX2_kind_5 : decode cX2_kind 5 = .ok (.aload_n 0, 1) := by decide +kernel
theorem dX2_kind_6 : decode cX2_kind 6 = .ok (.getfield 29, 3) := by decide +kernel
theorem dX2_kind_9 : decode cX2_kind 9 = .ok (.if_icmp .ge 19, 3) := by decide +kernel
theorem dX2_kind_12 : decode cX2_kind 12 = .ok (.iload_n 1, 1) := by decide +kernel
theorem dX2_kind_13 : decode cX2_kind 13 = .ok (.sipush 8193, 3) := by decide +kernel
theorem dX2_kind_16 : decode cX2_kind 16 = .ok (.if_icmp .ge 12, 3) := by decide +kernel
theorem dX2_kind_19 : decode cX2_kind 19 = .ok (.aload_n 0, 1) := by decide +kernel
theorem dX2_kind_20 : decode cX2_kind 20 = .ok (.getfield 11, 3) := by decide +kernel
theorem dX2_kind_23 : decode cX2_kind 23 = .ok (.iload_n 1, 1) := by decide +kernel
theorem dX2_kind_24 : decode cX2_kind 24 = .ok (.iaload, 1) := by decide +kernel
theorem dX2_kind_25 : decode cX2_kind 25 = .ok (.goto 5, 3) := by decide +kernel
theorem dX2_kind_28 : decode cX2_kind 28 = .ok (.bipush 6, 2) := by decide +kernel
theorem dX2_kind_30 : decode cX2_kind 30 = .ok (.ireturn, 1) := by decide +kernel

theorem dX2_place_0 : decode cX2_place 0 = .ok (.iload_n 1, 1) := by decide +kernel
theorem dX2_place_1 : decode cX2_place 1 = .ok (.ifCond .lt 27, 3) := by decide +kernel
theorem dX2_place_4 : decode cX2_place 4 = .ok (.iload_n 1, 1) := by decide +kernel
theorem dX2_place_5 : decode cX2_place 5 = .ok (.aload_n 0, 1) := by decide +kernel
theorem dX2_place_6 : decode cX2_place 6 = .ok (.getfield 29, 3) := by decide +kernel
theorem dX2_place_9 : decode cX2_place 9 = .ok (.if_icmp .ge 19, 3) := by decide +kernel
theorem dX2_place_12 : decode cX2_place 12 = .ok (.iload_n 1, 1) := by decide +kernel
theorem dX2_place_13 : decode cX2_place 13 = .ok (.sipush 8193, 3) := by decide +kernel
theorem dX2_place_16 : decode cX2_place 16 = .ok (.if_icmp .ge 12, 3) := by decide +kernel
theorem dX2_place_19 : decode cX2_place 19 = .ok (.aload_n 0, 1) := by decide +kernel
theorem dX2_place_20 : decode cX2_place 20 = .ok (.getfield 15, 3) := by decide +kernel
theorem dX2_place_23 : decode cX2_place 23 = .ok (.iload_n 1, 1) := by decide +kernel
theorem dX2_place_24 : decode cX2_place 24 = .ok (.iaload, 1) := by decide +kernel
theorem dX2_place_25 : decode cX2_place 25 = .ok (.goto 4, 3) := by decide +kernel
theorem dX2_place_28 : decode cX2_place 28 = .ok (.iconst (-1), 1) := by decide +kernel
theorem dX2_place_29 : decode cX2_place 29 = .ok (.ireturn, 1) := by decide +kernel

theorem dX2_value_0 : decode cX2_value 0 = .ok (.iload_n 1, 1) := by decide +kernel
theorem dX2_value_1 : decode cX2_value 1 = .ok (.ifCond .lt 27, 3) := by decide +kernel
theorem dX2_value_4 : decode cX2_value 4 = .ok (.iload_n 1, 1) := by decide +kernel
theorem dX2_value_5 : decode cX2_value 5 = .ok (.aload_n 0, 1) := by decide +kernel
theorem dX2_value_6 : decode cX2_value 6 = .ok (.getfield 29, 3) := by decide +kernel
theorem dX2_value_9 : decode cX2_value 9 = .ok (.if_icmp .ge 19, 3) := by decide +kernel
theorem dX2_value_12 : decode cX2_value 12 = .ok (.iload_n 1, 1) := by decide +kernel
theorem dX2_value_13 : decode cX2_value 13 = .ok (.sipush 8193, 3) := by decide +kernel
theorem dX2_value_16 : decode cX2_value 16 = .ok (.if_icmp .ge 12, 3) := by decide +kernel
theorem dX2_value_19 : decode cX2_value 19 = .ok (.aload_n 0, 1) := by decide +kernel
theorem dX2_value_20 : decode cX2_value 20 = .ok (.getfield 18, 3) := by decide +kernel
theorem dX2_value_23 : decode cX2_value 23 = .ok (.iload_n 1, 1) := by decide +kernel
theorem dX2_value_24 : decode cX2_value 24 = .ok (.iaload, 1) := by decide +kernel
theorem dX2_value_25 : decode cX2_value 25 = .ok (.goto 4, 3) := by decide +kernel
theorem dX2_value_28 : decode cX2_value 28 = .ok (.iconst 0, 1) := by decide +kernel
theorem dX2_value_29 : decode cX2_value 29 = .ok (.ireturn, 1) := by decide +kernel

theorem dX2_add_0 : decode cX2_add 0 = .ok (.aload_n 0, 1) := by decide +kernel
theorem dX2_add_1 : decode cX2_add 1 = .ok (.getfield 29, 3) := by decide +kernel
theorem dX2_add_4 : decode cX2_add 4 = .ok (.ifCond .lt 53, 3) := by decide +kernel
theorem dX2_add_7 : decode cX2_add 7 = .ok (.aload_n 0, 1) := by decide +kernel
theorem dX2_add_8 : decode cX2_add 8 = .ok (.getfield 29, 3) := by decide +kernel
theorem dX2_add_11 : decode cX2_add 11 = .ok (.sipush 8193, 3) := by decide +kernel
theorem dX2_add_14 : decode cX2_add 14 = .ok (.if_icmp .ge 43, 3) := by decide +kernel
theorem dX2_add_17 : decode cX2_add 17 = .ok (.aload_n 0, 1) := by decide +kernel
theorem dX2_add_18 : decode cX2_add 18 = .ok (.getfield 11, 3) := by decide +kernel
theorem dX2_add_21 : decode cX2_add 21 = .ok (.aload_n 0, 1) := by decide +kernel
theorem dX2_add_22 : decode cX2_add 22 = .ok (.getfield 29, 3) := by decide +kernel
theorem dX2_add_25 : decode cX2_add 25 = .ok (.iload_n 1, 1) := by decide +kernel
theorem dX2_add_26 : decode cX2_add 26 = .ok (.iastore, 1) := by decide +kernel
theorem dX2_add_27 : decode cX2_add 27 = .ok (.aload_n 0, 1) := by decide +kernel
theorem dX2_add_28 : decode cX2_add 28 = .ok (.getfield 15, 3) := by decide +kernel
theorem dX2_add_31 : decode cX2_add 31 = .ok (.aload_n 0, 1) := by decide +kernel
theorem dX2_add_32 : decode cX2_add 32 = .ok (.getfield 29, 3) := by decide +kernel
theorem dX2_add_35 : decode cX2_add 35 = .ok (.iload_n 2, 1) := by decide +kernel
theorem dX2_add_36 : decode cX2_add 36 = .ok (.iastore, 1) := by decide +kernel
theorem dX2_add_37 : decode cX2_add 37 = .ok (.aload_n 0, 1) := by decide +kernel
theorem dX2_add_38 : decode cX2_add 38 = .ok (.getfield 18, 3) := by decide +kernel
theorem dX2_add_41 : decode cX2_add 41 = .ok (.aload_n 0, 1) := by decide +kernel
theorem dX2_add_42 : decode cX2_add 42 = .ok (.getfield 29, 3) := by decide +kernel
theorem dX2_add_45 : decode cX2_add 45 = .ok (.iload_n 3, 1) := by decide +kernel
theorem dX2_add_46 : decode cX2_add 46 = .ok (.iastore, 1) := by decide +kernel
theorem dX2_add_47 : decode cX2_add 47 = .ok (.aload_n 0, 1) := by decide +kernel
theorem dX2_add_48 : decode cX2_add 48 = .ok (.dup, 1) := by decide +kernel
theorem dX2_add_49 : decode cX2_add 49 = .ok (.getfield 29, 3) := by decide +kernel
theorem dX2_add_52 : decode cX2_add 52 = .ok (.iconst 1, 1) := by decide +kernel
theorem dX2_add_53 : decode cX2_add 53 = .ok (.iadd, 1) := by decide +kernel
theorem dX2_add_54 : decode cX2_add 54 = .ok (.putfield 29, 3) := by decide +kernel
theorem dX2_add_57 : decode cX2_add 57 = .ok (.return_, 1) := by decide +kernel

theorem dX2_scanName_0 : decode cX2_scanName 0 = .ok (.aload_n 0, 1) := by decide +kernel
theorem dX2_scanName_1 : decode cX2_scanName 1 = .ok (.getfield 38, 3) := by decide +kernel
theorem dX2_scanName_4 : decode cX2_scanName 4 = .ok (.istore_n 1, 1) := by decide +kernel
theorem dX2_scanName_5 : decode cX2_scanName 5 = .ok (.iconst 0, 1) := by decide +kernel
theorem dX2_scanName_6 : decode cX2_scanName 6 = .ok (.istore_n 2, 1) := by decide +kernel
theorem dX2_scanName_7 : decode cX2_scanName 7 = .ok (.iload_n 2, 1) := by decide +kernel
theorem dX2_scanName_8 : decode cX2_scanName 8 = .ok (.sipush 8192, 3) := by decide +kernel
theorem dX2_scanName_11 : decode cX2_scanName 11 = .ok (.if_icmp .ge 36, 3) := by decide +kernel
theorem dX2_scanName_14 : decode cX2_scanName 14 = .ok (.aload_n 0, 1) := by decide +kernel
theorem dX2_scanName_15 : decode cX2_scanName 15 = .ok (.getfield 21, 3) := by decide +kernel
theorem dX2_scanName_18 : decode cX2_scanName 18 = .ok (.aload_n 0, 1) := by decide +kernel
theorem dX2_scanName_19 : decode cX2_scanName 19 = .ok (.getfield 38, 3) := by decide +kernel
theorem dX2_scanName_22 : decode cX2_scanName 22 = .ok (.invokevirtual 52, 3) := by decide +kernel
theorem dX2_scanName_25 : decode cX2_scanName 25 = .ok (.invokestatic 74, 3) := by decide +kernel
theorem dX2_scanName_28 : decode cX2_scanName 28 = .ok (.ifCond .eq 19, 3) := by decide +kernel
theorem dX2_scanName_31 : decode cX2_scanName 31 = .ok (.aload_n 0, 1) := by decide +kernel
theorem dX2_scanName_32 : decode cX2_scanName 32 = .ok (.dup, 1) := by decide +kernel
theorem dX2_scanName_33 : decode cX2_scanName 33 = .ok (.getfield 38, 3) := by decide +kernel
theorem dX2_scanName_36 : decode cX2_scanName 36 = .ok (.iconst 1, 1) := by decide +kernel
theorem dX2_scanName_37 : decode cX2_scanName 37 = .ok (.iadd, 1) := by decide +kernel
theorem dX2_scanName_38 : decode cX2_scanName 38 = .ok (.putfield 38, 3) := by decide +kernel
theorem dX2_scanName_41 : decode cX2_scanName 41 = .ok (.iinc 2 1, 3) := by decide +kernel
theorem dX2_scanName_44 : decode cX2_scanName 44 = .ok (.goto (-37), 3) := by decide +kernel
theorem dX2_scanName_47 : decode cX2_scanName 47 = .ok (.aload_n 0, 1) := by decide +kernel
theorem dX2_scanName_48 : decode cX2_scanName 48 = .ok (.getfield 38, 3) := by decide +kernel
theorem dX2_scanName_51 : decode cX2_scanName 51 = .ok (.iload_n 1, 1) := by decide +kernel
theorem dX2_scanName_52 : decode cX2_scanName 52 = .ok (.isub, 1) := by decide +kernel
theorem dX2_scanName_53 : decode cX2_scanName 53 = .ok (.bipush 32, 2) := by decide +kernel
theorem dX2_scanName_55 : decode cX2_scanName 55 = .ok (.if_icmp .le 11, 3) := by decide +kernel
theorem dX2_scanName_58 : decode cX2_scanName 58 = .ok (.aload_n 0, 1) := by decide +kernel
theorem dX2_scanName_59 : decode cX2_scanName 59 = .ok (.iconst 5, 1) := by decide +kernel
theorem dX2_scanName_60 : decode cX2_scanName 60 = .ok (.iload_n 1, 1) := by decide +kernel
theorem dX2_scanName_61 : decode cX2_scanName 61 = .ok (.iconst 3, 1) := by decide +kernel
theorem dX2_scanName_62 : decode cX2_scanName 62 = .ok (.invokevirtual 57, 3) := by decide +kernel
theorem dX2_scanName_65 : decode cX2_scanName 65 = .ok (.return_, 1) := by decide +kernel
theorem dX2_scanName_66 : decode cX2_scanName 66 = .ok (.iload_n 1, 1) := by decide +kernel
theorem dX2_scanName_67 : decode cX2_scanName 67 = .ok (.istore_n 2, 1) := by decide +kernel
theorem dX2_scanName_68 : decode cX2_scanName 68 = .ok (.iload_n 2, 1) := by decide +kernel
theorem dX2_scanName_69 : decode cX2_scanName 69 = .ok (.aload_n 0, 1) := by decide +kernel
theorem dX2_scanName_70 : decode cX2_scanName 70 = .ok (.getfield 38, 3) := by decide +kernel
theorem dX2_scanName_73 : decode cX2_scanName 73 = .ok (.if_icmp .ge 24, 3) := by decide +kernel
theorem dX2_scanName_76 : decode cX2_scanName 76 = .ok (.aload_n 0, 1) := by decide +kernel
theorem dX2_scanName_77 : decode cX2_scanName 77 = .ok (.getfield 25, 3) := by decide +kernel
theorem dX2_scanName_80 : decode cX2_scanName 80 = .ok (.aload_n 0, 1) := by decide +kernel
theorem dX2_scanName_81 : decode cX2_scanName 81 = .ok (.getfield 21, 3) := by decide +kernel
theorem dX2_scanName_84 : decode cX2_scanName 84 = .ok (.iload_n 2, 1) := by decide +kernel
theorem dX2_scanName_85 : decode cX2_scanName 85 = .ok (.invokevirtual 52, 3) := by decide +kernel
theorem dX2_scanName_88 : decode cX2_scanName 88 = .ok (.invokevirtual 90, 3) := by decide +kernel
theorem dX2_scanName_91 : decode cX2_scanName 91 = .ok (.iinc 2 1, 3) := by decide +kernel
theorem dX2_scanName_94 : decode cX2_scanName 94 = .ok (.goto (-26), 3) := by decide +kernel
theorem dX2_scanName_97 : decode cX2_scanName 97 = .ok (.aload_n 0, 1) := by decide +kernel
theorem dX2_scanName_98 : decode cX2_scanName 98 = .ok (.getfield 25, 3) := by decide +kernel
theorem dX2_scanName_101 : decode cX2_scanName 101 = .ok (.invokevirtual 94, 3) := by decide +kernel
theorem dX2_scanName_104 : decode cX2_scanName 104 = .ok (.istore_n 2, 1) := by decide +kernel
theorem dX2_scanName_105 : decode cX2_scanName 105 = .ok (.iload_n 2, 1) := by decide +kernel
theorem dX2_scanName_106 : decode cX2_scanName 106 = .ok (.bipush 41, 2) := by decide +kernel
theorem dX2_scanName_108 : decode cX2_scanName 108 = .ok (.if_icmp .ge 17, 3) := by decide +kernel
theorem dX2_scanName_111 : decode cX2_scanName 111 = .ok (.aload_n 0, 1) := by decide +kernel
theorem dX2_scanName_112 : decode cX2_scanName 112 = .ok (.sipush 256, 3) := by decide +kernel
theorem dX2_scanName_115 : decode cX2_scanName 115 = .ok (.iload_n 2, 1) := by decide +kernel
theorem dX2_scanName_116 : decode cX2_scanName 116 = .ok (.iadd, 1) := by decide +kernel
theorem dX2_scanName_117 : decode cX2_scanName 117 = .ok (.iload_n 1, 1) := by decide +kernel
theorem dX2_scanName_118 : decode cX2_scanName 118 = .ok (.iconst 0, 1) := by decide +kernel
theorem dX2_scanName_119 : decode cX2_scanName 119 = .ok (.invokevirtual 57, 3) := by decide +kernel
theorem dX2_scanName_122 : decode cX2_scanName 122 = .ok (.goto 13, 3) := by decide +kernel
theorem dX2_scanName_125 : decode cX2_scanName 125 = .ok (.aload_n 0, 1) := by decide +kernel
theorem dX2_scanName_126 : decode cX2_scanName 126 = .ok (.iconst 1, 1) := by decide +kernel
theorem dX2_scanName_127 : decode cX2_scanName 127 = .ok (.iload_n 1, 1) := by decide +kernel
theorem dX2_scanName_128 : decode cX2_scanName 128 = .ok (.iload_n 2, 1) := by decide +kernel
theorem dX2_scanName_129 : decode cX2_scanName 129 = .ok (.bipush 41, 2) := by decide +kernel
theorem dX2_scanName_131 : decode cX2_scanName 131 = .ok (.isub, 1) := by decide +kernel
theorem dX2_scanName_132 : decode cX2_scanName 132 = .ok (.invokevirtual 57, 3) := by decide +kernel
theorem dX2_scanName_135 : decode cX2_scanName 135 = .ok (.return_, 1) := by decide +kernel

theorem dX2_addNumber_0 : decode cX2_addNumber 0 = .ok (.lload_n 2, 1) := by decide +kernel
theorem dX2_addNumber_1 : decode cX2_addNumber 1 = .ok (.lconst 0, 1) := by decide +kernel
theorem dX2_addNumber_2 : decode cX2_addNumber 2 = .ok (.lcmp, 1) := by decide +kernel
theorem dX2_addNumber_3 : decode cX2_addNumber 3 = .ok (.ifCond .lt 28, 3) := by decide +kernel
theorem dX2_addNumber_6 : decode cX2_addNumber 6 = .ok (.lload_n 2, 1) := by decide +kernel
theorem dX2_addNumber_7 : decode cX2_addNumber 7 = .ok (.ldc2_w 118, 3) := by decide +kernel
theorem dX2_addNumber_10 : decode cX2_addNumber 10 = .ok (.lcmp, 1) := by decide +kernel
theorem dX2_addNumber_11 : decode cX2_addNumber 11 = .ok (.ifCond .gt 20, 3) := by decide +kernel
theorem dX2_addNumber_14 : decode cX2_addNumber 14 = .ok (.aload_n 0, 1) := by decide +kernel
theorem dX2_addNumber_15 : decode cX2_addNumber 15 = .ok (.getfield 21, 3) := by decide +kernel
theorem dX2_addNumber_18 : decode cX2_addNumber 18 = .ok (.aload_n 0, 1) := by decide +kernel
theorem dX2_addNumber_19 : decode cX2_addNumber 19 = .ok (.getfield 38, 3) := by decide +kernel
theorem dX2_addNumber_22 : decode cX2_addNumber 22 = .ok (.invokevirtual 52, 3) := by decide +kernel
theorem dX2_addNumber_25 : decode cX2_addNumber 25 = .ok (.invokestatic 74, 3) := by decide +kernel
theorem dX2_addNumber_28 : decode cX2_addNumber 28 = .ok (.ifCond .eq 13, 3) := by decide +kernel
theorem dX2_addNumber_31 : decode cX2_addNumber 31 = .ok (.aload_n 0, 1) := by decide +kernel
theorem dX2_addNumber_32 : decode cX2_addNumber 32 = .ok (.iconst 5, 1) := by decide +kernel
theorem dX2_addNumber_33 : decode cX2_addNumber 33 = .ok (.iload_n 1, 1) := by decide +kernel
theorem dX2_addNumber_34 : decode cX2_addNumber 34 = .ok (.iconst 4, 1) := by decide +kernel
theorem dX2_addNumber_35 : decode cX2_addNumber 35 = .ok (.invokevirtual 57, 3) := by decide +kernel
theorem dX2_addNumber_38 : decode cX2_addNumber 38 = .ok (.goto 11, 3) := by decide +kernel
theorem dX2_addNumber_41 : decode cX2_addNumber 41 = .ok (.aload_n 0, 1) := by decide +kernel
theorem dX2_addNumber_42 : decode cX2_addNumber 42 = .ok (.iconst 2, 1) := by decide +kernel
theorem dX2_addNumber_43 : decode cX2_addNumber 43 = .ok (.iload_n 1, 1) := by decide +kernel
theorem dX2_addNumber_44 : decode cX2_addNumber 44 = .ok (.lload_n 2, 1) := by decide +kernel
theorem dX2_addNumber_45 : decode cX2_addNumber 45 = .ok (.l2i, 1) := by decide +kernel
theorem dX2_addNumber_46 : decode cX2_addNumber 46 = .ok (.invokevirtual 57, 3) := by decide +kernel
theorem dX2_addNumber_49 : decode cX2_addNumber 49 = .ok (.return_, 1) := by decide +kernel

theorem dX2_digit_0 : decode cX2_digit 0 = .ok (.iload_n 0, 1) := by decide +kernel
theorem dX2_digit_1 : decode cX2_digit 1 = .ok (.invokestatic 61, 3) := by decide +kernel
theorem dX2_digit_4 : decode cX2_digit 4 = .ok (.istore_n 1, 1) := by decide +kernel
theorem dX2_digit_5 : decode cX2_digit 5 = .ok (.iload_n 1, 1) := by decide +kernel
theorem dX2_digit_6 : decode cX2_digit 6 = .ok (.bipush 65, 2) := by decide +kernel
theorem dX2_digit_8 : decode cX2_digit 8 = .ok (.if_icmp .lt 17, 3) := by decide +kernel
theorem dX2_digit_11 : decode cX2_digit 11 = .ok (.iload_n 1, 1) := by decide +kernel
theorem dX2_digit_12 : decode cX2_digit 12 = .ok (.bipush 70, 2) := by decide +kernel
theorem dX2_digit_14 : decode cX2_digit 14 = .ok (.if_icmp .gt 11, 3) := by decide +kernel
theorem dX2_digit_17 : decode cX2_digit 17 = .ok (.iload_n 1, 1) := by decide +kernel
theorem dX2_digit_18 : decode cX2_digit 18 = .ok (.bipush 65, 2) := by decide +kernel
theorem dX2_digit_20 : decode cX2_digit 20 = .ok (.isub, 1) := by decide +kernel
theorem dX2_digit_21 : decode cX2_digit 21 = .ok (.bipush 10, 2) := by decide +kernel
theorem dX2_digit_23 : decode cX2_digit 23 = .ok (.iadd, 1) := by decide +kernel
theorem dX2_digit_24 : decode cX2_digit 24 = .ok (.ireturn, 1) := by decide +kernel
theorem dX2_digit_25 : decode cX2_digit 25 = .ok (.iload_n 0, 1) := by decide +kernel
theorem dX2_digit_26 : decode cX2_digit 26 = .ok (.invokestatic 67, 3) := by decide +kernel
theorem dX2_digit_29 : decode cX2_digit 29 = .ok (.ifCond .eq 10, 3) := by decide +kernel
theorem dX2_digit_32 : decode cX2_digit 32 = .ok (.iload_n 0, 1) := by decide +kernel
theorem dX2_digit_33 : decode cX2_digit 33 = .ok (.bipush 48, 2) := by decide +kernel
theorem dX2_digit_35 : decode cX2_digit 35 = .ok (.isub, 1) := by decide +kernel
theorem dX2_digit_36 : decode cX2_digit 36 = .ok (.goto 4, 3) := by decide +kernel
theorem dX2_digit_39 : decode cX2_digit 39 = .ok (.iconst (-1), 1) := by decide +kernel
theorem dX2_digit_40 : decode cX2_digit 40 = .ok (.ireturn, 1) := by decide +kernel

theorem dX2_digits_0 : decode cX2_digits 0 = .ok (.lconst 0, 1) := by decide +kernel
theorem dX2_digits_1 : decode cX2_digits 1 = .ok (.lstore_n 2, 1) := by decide +kernel
theorem dX2_digits_2 : decode cX2_digits 2 = .ok (.aload_n 0, 1) := by decide +kernel
theorem dX2_digits_3 : decode cX2_digits 3 = .ok (.getfield 38, 3) := by decide +kernel
theorem dX2_digits_6 : decode cX2_digits 6 = .ok (.istore 4, 2) := by decide +kernel
theorem dX2_digits_8 : decode cX2_digits 8 = .ok (.iconst 0, 1) := by decide +kernel
theorem dX2_digits_9 : decode cX2_digits 9 = .ok (.istore 5, 2) := by decide +kernel
theorem dX2_digits_11 : decode cX2_digits 11 = .ok (.iload 5, 2) := by decide +kernel
theorem dX2_digits_13 : decode cX2_digits 13 = .ok (.sipush 8192, 3) := by decide +kernel
theorem dX2_digits_16 : decode cX2_digits 16 = .ok (.if_icmp .ge 65, 3) := by decide +kernel
theorem dX2_digits_19 : decode cX2_digits 19 = .ok (.aload_n 0, 1) := by decide +kernel
theorem dX2_digits_20 : decode cX2_digits 20 = .ok (.getfield 21, 3) := by decide +kernel
theorem dX2_digits_23 : decode cX2_digits 23 = .ok (.aload_n 0, 1) := by decide +kernel
theorem dX2_digits_24 : decode cX2_digits 24 = .ok (.getfield 38, 3) := by decide +kernel
theorem dX2_digits_27 : decode cX2_digits 27 = .ok (.invokevirtual 52, 3) := by decide +kernel
theorem dX2_digits_30 : decode cX2_digits 30 = .ok (.invokestatic 120, 3) := by decide +kernel
theorem dX2_digits_33 : decode cX2_digits 33 = .ok (.istore 6, 2) := by decide +kernel
theorem dX2_digits_35 : decode cX2_digits 35 = .ok (.iload 6, 2) := by decide +kernel
theorem dX2_digits_37 : decode cX2_digits 37 = .ok (.iconst (-1), 1) := by decide +kernel
theorem dX2_digits_38 : decode cX2_digits 38 = .ok (.if_icmp .eq 43, 3) := by decide +kernel
theorem dX2_digits_41 : decode cX2_digits 41 = .ok (.iload 6, 2) := by decide +kernel
theorem dX2_digits_43 : decode cX2_digits 43 = .ok (.iload_n 1, 1) := by decide +kernel
theorem dX2_digits_44 : decode cX2_digits 44 = .ok (.if_icmp .lt 6, 3) := by decide +kernel
theorem dX2_digits_47 : decode cX2_digits 47 = .ok (.goto 34, 3) := by decide +kernel
theorem dX2_digits_50 : decode cX2_digits 50 = .ok (.ldc2_w 123, 3) := by decide +kernel
theorem dX2_digits_53 : decode cX2_digits 53 = .ok (.lload_n 2, 1) := by decide +kernel
theorem dX2_digits_54 : decode cX2_digits 54 = .ok (.iload_n 1, 1) := by decide +kernel
theorem dX2_digits_55 : decode cX2_digits 55 = .ok (.i2l, 1) := by decide +kernel
theorem dX2_digits_56 : decode cX2_digits 56 = .ok (.lmul, 1) := by decide +kernel
theorem dX2_digits_57 : decode cX2_digits 57 = .ok (.iload 6, 2) := by decide +kernel
theorem dX2_digits_59 : decode cX2_digits 59 = .ok (.i2l, 1) := by decide +kernel
theorem dX2_digits_60 : decode cX2_digits 60 = .ok (.ladd, 1) := by decide +kernel
theorem dX2_digits_61 : decode cX2_digits 61 = .ok (.invokestatic 125, 3) := by decide +kernel
theorem dX2_digits_64 : decode cX2_digits 64 = .ok (.lstore_n 2, 1) := by decide +kernel
theorem dX2_digits_65 : decode cX2_digits 65 = .ok (.aload_n 0, 1) := by decide +kernel
theorem dX2_digits_66 : decode cX2_digits 66 = .ok (.dup, 1) := by decide +kernel
theorem dX2_digits_67 : decode cX2_digits 67 = .ok (.getfield 38, 3) := by decide +kernel
theorem dX2_digits_70 : decode cX2_digits 70 = .ok (.iconst 1, 1) := by decide +kernel
theorem dX2_digits_71 : decode cX2_digits 71 = .ok (.iadd, 1) := by decide +kernel
theorem dX2_digits_72 : decode cX2_digits 72 = .ok (.putfield 38, 3) := by decide +kernel
theorem dX2_digits_75 : decode cX2_digits 75 = .ok (.iinc 5 1, 3) := by decide +kernel
theorem dX2_digits_78 : decode cX2_digits 78 = .ok (.goto (-67), 3) := by decide +kernel
theorem dX2_digits_81 : decode cX2_digits 81 = .ok (.aload_n 0, 1) := by decide +kernel
theorem dX2_digits_82 : decode cX2_digits 82 = .ok (.getfield 38, 3) := by decide +kernel
theorem dX2_digits_85 : decode cX2_digits 85 = .ok (.iload 4, 2) := by decide +kernel
theorem dX2_digits_87 : decode cX2_digits 87 = .ok (.if_icmp .ne 9, 3) := by decide +kernel
theorem dX2_digits_90 : decode cX2_digits 90 = .ok (.ldc2_w 108, 3) := by decide +kernel
theorem dX2_digits_93 : decode cX2_digits 93 = .ok (.goto 4, 3) := by decide +kernel
theorem dX2_digits_96 : decode cX2_digits 96 = .ok (.lload_n 2, 1) := by decide +kernel
theorem dX2_digits_97 : decode cX2_digits 97 = .ok (.lreturn, 1) := by decide +kernel

theorem dX2_scanNumber_0 : decode cX2_scanNumber 0 = .ok (.aload_n 0, 1) := by decide +kernel
theorem dX2_scanNumber_1 : decode cX2_scanNumber 1 = .ok (.getfield 38, 3) := by decide +kernel
theorem dX2_scanNumber_4 : decode cX2_scanNumber 4 = .ok (.istore_n 1, 1) := by decide +kernel
theorem dX2_scanNumber_5 : decode cX2_scanNumber 5 = .ok (.aload_n 0, 1) := by decide +kernel
theorem dX2_scanNumber_6 : decode cX2_scanNumber 6 = .ok (.bipush 10, 2) := by decide +kernel
theorem dX2_scanNumber_8 : decode cX2_scanNumber 8 = .ok (.invokevirtual 100, 3) := by decide +kernel
theorem dX2_scanNumber_11 : decode cX2_scanNumber 11 = .ok (.lstore_n 2, 1) := by decide +kernel
theorem dX2_scanNumber_12 : decode cX2_scanNumber 12 = .ok (.aload_n 0, 1) := by decide +kernel
theorem dX2_scanNumber_13 : decode cX2_scanNumber 13 = .ok (.getfield 21, 3) := by decide +kernel
theorem dX2_scanNumber_16 : decode cX2_scanNumber 16 = .ok (.aload_n 0, 1) := by decide +kernel
theorem dX2_scanNumber_17 : decode cX2_scanNumber 17 = .ok (.getfield 38, 3) := by decide +kernel
theorem dX2_scanNumber_20 : decode cX2_scanNumber 20 = .ok (.invokevirtual 52, 3) := by decide +kernel
theorem dX2_scanNumber_23 : decode cX2_scanNumber 23 = .ok (.bipush 35, 2) := by decide +kernel
theorem dX2_scanNumber_25 : decode cX2_scanNumber 25 = .ok (.if_icmp .ne 42, 3) := by decide +kernel
theorem dX2_scanNumber_28 : decode cX2_scanNumber 28 = .ok (.aload_n 0, 1) := by decide +kernel
theorem dX2_scanNumber_29 : decode cX2_scanNumber 29 = .ok (.dup, 1) := by decide +kernel
theorem dX2_scanNumber_30 : decode cX2_scanNumber 30 = .ok (.getfield 38, 3) := by decide +kernel
theorem dX2_scanNumber_33 : decode cX2_scanNumber 33 = .ok (.iconst 1, 1) := by decide +kernel
theorem dX2_scanNumber_34 : decode cX2_scanNumber 34 = .ok (.iadd, 1) := by decide +kernel
theorem dX2_scanNumber_35 : decode cX2_scanNumber 35 = .ok (.putfield 38, 3) := by decide +kernel
theorem dX2_scanNumber_38 : decode cX2_scanNumber 38 = .ok (.lload_n 2, 1) := by decide +kernel
theorem dX2_scanNumber_39 : decode cX2_scanNumber 39 = .ok (.ldc2_w 104, 3) := by decide +kernel
theorem dX2_scanNumber_42 : decode cX2_scanNumber 42 = .ok (.lcmp, 1) := by decide +kernel
theorem dX2_scanNumber_43 : decode cX2_scanNumber 43 = .ok (.ifCond .eq 11, 3) := by decide +kernel
theorem dX2_scanNumber_46 : decode cX2_scanNumber 46 = .ok (.lload_n 2, 1) := by decide +kernel
theorem dX2_scanNumber_47 : decode cX2_scanNumber 47 = .ok (.ldc2_w 106, 3) := by decide +kernel
theorem dX2_scanNumber_50 : decode cX2_scanNumber 50 = .ok (.lcmp, 1) := by decide +kernel
theorem dX2_scanNumber_51 : decode cX2_scanNumber 51 = .ok (.ifCond .ne 12, 3) := by decide +kernel
theorem dX2_scanNumber_54 : decode cX2_scanNumber 54 = .ok (.aload_n 0, 1) := by decide +kernel
theorem dX2_scanNumber_55 : decode cX2_scanNumber 55 = .ok (.lload_n 2, 1) := by decide +kernel
theorem dX2_scanNumber_56 : decode cX2_scanNumber 56 = .ok (.l2i, 1) := by decide +kernel
theorem dX2_scanNumber_57 : decode cX2_scanNumber 57 = .ok (.invokevirtual 100, 3) := by decide +kernel
theorem dX2_scanNumber_60 : decode cX2_scanNumber 60 = .ok (.goto 6, 3) := by decide +kernel
theorem dX2_scanNumber_63 : decode cX2_scanNumber 63 = .ok (.ldc2_w 108, 3) := by decide +kernel
theorem dX2_scanNumber_66 : decode cX2_scanNumber 66 = .ok (.lstore_n 2, 1) := by decide +kernel
theorem dX2_scanNumber_67 : decode cX2_scanNumber 67 = .ok (.aload_n 0, 1) := by decide +kernel
theorem dX2_scanNumber_68 : decode cX2_scanNumber 68 = .ok (.iload_n 1, 1) := by decide +kernel
theorem dX2_scanNumber_69 : decode cX2_scanNumber 69 = .ok (.lload_n 2, 1) := by decide +kernel
theorem dX2_scanNumber_70 : decode cX2_scanNumber 70 = .ok (.invokevirtual 110, 3) := by decide +kernel
theorem dX2_scanNumber_73 : decode cX2_scanNumber 73 = .ok (.return_, 1) := by decide +kernel

theorem dX2_placeRow_0 : decode cX2_placeRow 0 = .ok (.iload_n 0, 1) := by decide +kernel
theorem dX2_placeRow_1 : decode cX2_placeRow 1 = .ok (.bipush 73, 2) := by decide +kernel
theorem dX2_placeRow_3 : decode cX2_placeRow 3 = .ok (.if_icmp .ne 7, 3) := by decide +kernel
theorem dX2_placeRow_6 : decode cX2_placeRow 6 = .ok (.iconst 0, 1) := by decide +kernel
theorem dX2_placeRow_7 : decode cX2_placeRow 7 = .ok (.goto 24, 3) := by decide +kernel
theorem dX2_placeRow_10 : decode cX2_placeRow 10 = .ok (.iload_n 0, 1) := by decide +kernel
theorem dX2_placeRow_11 : decode cX2_placeRow 11 = .ok (.bipush 81, 2) := by decide +kernel
theorem dX2_placeRow_13 : decode cX2_placeRow 13 = .ok (.if_icmp .ne 7, 3) := by decide +kernel
theorem dX2_placeRow_16 : decode cX2_placeRow 16 = .ok (.iconst 1, 1) := by decide +kernel
theorem dX2_placeRow_17 : decode cX2_placeRow 17 = .ok (.goto 14, 3) := by decide +kernel
theorem dX2_placeRow_20 : decode cX2_placeRow 20 = .ok (.iload_n 0, 1) := by decide +kernel
theorem dX2_placeRow_21 : decode cX2_placeRow 21 = .ok (.bipush 77, 2) := by decide +kernel
theorem dX2_placeRow_23 : decode cX2_placeRow 23 = .ok (.if_icmp .ne 7, 3) := by decide +kernel
theorem dX2_placeRow_26 : decode cX2_placeRow 26 = .ok (.iconst 2, 1) := by decide +kernel
theorem dX2_placeRow_27 : decode cX2_placeRow 27 = .ok (.goto 4, 3) := by decide +kernel
theorem dX2_placeRow_30 : decode cX2_placeRow 30 = .ok (.iconst (-1), 1) := by decide +kernel
theorem dX2_placeRow_31 : decode cX2_placeRow 31 = .ok (.istore_n 2, 1) := by decide +kernel
theorem dX2_placeRow_32 : decode cX2_placeRow 32 = .ok (.iload_n 2, 1) := by decide +kernel
theorem dX2_placeRow_33 : decode cX2_placeRow 33 = .ok (.iconst (-1), 1) := by decide +kernel
theorem dX2_placeRow_34 : decode cX2_placeRow 34 = .ok (.if_icmp .eq 15, 3) := by decide +kernel
theorem dX2_placeRow_37 : decode cX2_placeRow 37 = .ok (.iload_n 1, 1) := by decide +kernel
theorem dX2_placeRow_38 : decode cX2_placeRow 38 = .ok (.bipush 88, 2) := by decide +kernel
theorem dX2_placeRow_40 : decode cX2_placeRow 40 = .ok (.if_icmp .eq 11, 3) := by decide +kernel
theorem dX2_placeRow_43 : decode cX2_placeRow 43 = .ok (.iload_n 1, 1) := by decide +kernel
theorem dX2_placeRow_44 : decode cX2_placeRow 44 = .ok (.bipush 87, 2) := by decide +kernel
theorem dX2_placeRow_46 : decode cX2_placeRow 46 = .ok (.if_icmp .eq 5, 3) := by decide +kernel
theorem dX2_placeRow_49 : decode cX2_placeRow 49 = .ok (.iconst (-1), 1) := by decide +kernel
theorem dX2_placeRow_50 : decode cX2_placeRow 50 = .ok (.ireturn, 1) := by decide +kernel
theorem dX2_placeRow_51 : decode cX2_placeRow 51 = .ok (.iload_n 1, 1) := by decide +kernel
theorem dX2_placeRow_52 : decode cX2_placeRow 52 = .ok (.bipush 88, 2) := by decide +kernel
theorem dX2_placeRow_54 : decode cX2_placeRow 54 = .ok (.if_icmp .ne 7, 3) := by decide +kernel
theorem dX2_placeRow_57 : decode cX2_placeRow 57 = .ok (.iload_n 2, 1) := by decide +kernel
theorem dX2_placeRow_58 : decode cX2_placeRow 58 = .ok (.goto 6, 3) := by decide +kernel
theorem dX2_placeRow_61 : decode cX2_placeRow 61 = .ok (.iconst 3, 1) := by decide +kernel
theorem dX2_placeRow_62 : decode cX2_placeRow 62 = .ok (.iload_n 2, 1) := by decide +kernel
theorem dX2_placeRow_63 : decode cX2_placeRow 63 = .ok (.iadd, 1) := by decide +kernel
theorem dX2_placeRow_64 : decode cX2_placeRow 64 = .ok (.ireturn, 1) := by decide +kernel

theorem dX2_scanPlace_0 : decode cX2_scanPlace 0 = .ok (.aload_n 0, 1) := by decide +kernel
theorem dX2_scanPlace_1 : decode cX2_scanPlace 1 = .ok (.getfield 38, 3) := by decide +kernel
theorem dX2_scanPlace_4 : decode cX2_scanPlace 4 = .ok (.istore_n 1, 1) := by decide +kernel
theorem dX2_scanPlace_5 : decode cX2_scanPlace 5 = .ok (.aload_n 0, 1) := by decide +kernel
theorem dX2_scanPlace_6 : decode cX2_scanPlace 6 = .ok (.getfield 21, 3) := by decide +kernel
theorem dX2_scanPlace_9 : decode cX2_scanPlace 9 = .ok (.aload_n 0, 1) := by decide +kernel
theorem dX2_scanPlace_10 : decode cX2_scanPlace 10 = .ok (.getfield 38, 3) := by decide +kernel
theorem dX2_scanPlace_13 : decode cX2_scanPlace 13 = .ok (.iconst 1, 1) := by decide +kernel
theorem dX2_scanPlace_14 : decode cX2_scanPlace 14 = .ok (.iadd, 1) := by decide +kernel
theorem dX2_scanPlace_15 : decode cX2_scanPlace 15 = .ok (.invokevirtual 52, 3) := by decide +kernel
theorem dX2_scanPlace_18 : decode cX2_scanPlace 18 = .ok (.invokestatic 61, 3) := by decide +kernel
theorem dX2_scanPlace_21 : decode cX2_scanPlace 21 = .ok (.aload_n 0, 1) := by decide +kernel
theorem dX2_scanPlace_22 : decode cX2_scanPlace 22 = .ok (.getfield 21, 3) := by decide +kernel
theorem dX2_scanPlace_25 : decode cX2_scanPlace 25 = .ok (.aload_n 0, 1) := by decide +kernel
theorem dX2_scanPlace_26 : decode cX2_scanPlace 26 = .ok (.getfield 38, 3) := by decide +kernel
theorem dX2_scanPlace_29 : decode cX2_scanPlace 29 = .ok (.iconst 2, 1) := by decide +kernel
theorem dX2_scanPlace_30 : decode cX2_scanPlace 30 = .ok (.iadd, 1) := by decide +kernel
theorem dX2_scanPlace_31 : decode cX2_scanPlace 31 = .ok (.invokevirtual 52, 3) := by decide +kernel
theorem dX2_scanPlace_34 : decode cX2_scanPlace 34 = .ok (.invokestatic 61, 3) := by decide +kernel
theorem dX2_scanPlace_37 : decode cX2_scanPlace 37 = .ok (.invokestatic 137, 3) := by decide +kernel
theorem dX2_scanPlace_40 : decode cX2_scanPlace 40 = .ok (.istore_n 2, 1) := by decide +kernel
theorem dX2_scanPlace_41 : decode cX2_scanPlace 41 = .ok (.aload_n 0, 1) := by decide +kernel
theorem dX2_scanPlace_42 : decode cX2_scanPlace 42 = .ok (.dup, 1) := by decide +kernel
theorem dX2_scanPlace_43 : decode cX2_scanPlace 43 = .ok (.getfield 38, 3) := by decide +kernel
theorem dX2_scanPlace_46 : decode cX2_scanPlace 46 = .ok (.iconst 3, 1) := by decide +kernel
theorem dX2_scanPlace_47 : decode cX2_scanPlace 47 = .ok (.iadd, 1) := by decide +kernel
theorem dX2_scanPlace_48 : decode cX2_scanPlace 48 = .ok (.putfield 38, 3) := by decide +kernel
theorem dX2_scanPlace_51 : decode cX2_scanPlace 51 = .ok (.aload_n 0, 1) := by decide +kernel
theorem dX2_scanPlace_52 : decode cX2_scanPlace 52 = .ok (.bipush 10, 2) := by decide +kernel
theorem dX2_scanPlace_54 : decode cX2_scanPlace 54 = .ok (.invokevirtual 100, 3) := by decide +kernel
theorem dX2_scanPlace_57 : decode cX2_scanPlace 57 = .ok (.lstore_n 3, 1) := by decide +kernel
theorem dX2_scanPlace_58 : decode cX2_scanPlace 58 = .ok (.iload_n 2, 1) := by decide +kernel
theorem dX2_scanPlace_59 : decode cX2_scanPlace 59 = .ok (.iconst 3, 1) := by decide +kernel
theorem dX2_scanPlace_60 : decode cX2_scanPlace 60 = .ok (.if_icmp .ge 9, 3) := by decide +kernel
theorem dX2_scanPlace_63 : decode cX2_scanPlace 63 = .ok (.sipush 255, 3) := by decide +kernel
theorem dX2_scanPlace_66 : decode cX2_scanPlace 66 = .ok (.goto 5, 3) := by decide +kernel
theorem dX2_scanPlace_69 : decode cX2_scanPlace 69 = .ok (.bipush 63, 2) := by decide +kernel
theorem dX2_scanPlace_71 : decode cX2_scanPlace 71 = .ok (.istore 5, 2) := by decide +kernel
theorem dX2_scanPlace_73 : decode cX2_scanPlace 73 = .ok (.iload_n 2, 1) := by decide +kernel
theorem dX2_scanPlace_74 : decode cX2_scanPlace 74 = .ok (.iconst (-1), 1) := by decide +kernel
theorem dX2_scanPlace_75 : decode cX2_scanPlace 75 = .ok (.if_icmp .eq 36, 3) := by decide +kernel
theorem dX2_scanPlace_78 : decode cX2_scanPlace 78 = .ok (.lload_n 3, 1) := by decide +kernel
theorem dX2_scanPlace_79 : decode cX2_scanPlace 79 = .ok (.ldc2_w 108, 3) := by decide +kernel
theorem dX2_scanPlace_82 : decode cX2_scanPlace 82 = .ok (.lcmp, 1) := by decide +kernel
theorem dX2_scanPlace_83 : decode cX2_scanPlace 83 = .ok (.ifCond .eq 28, 3) := by decide +kernel
theorem dX2_scanPlace_86 : decode cX2_scanPlace 86 = .ok (.lload_n 3, 1) := by decide +kernel
theorem dX2_scanPlace_87 : decode cX2_scanPlace 87 = .ok (.iload 5, 2) := by decide +kernel
theorem dX2_scanPlace_89 : decode cX2_scanPlace 89 = .ok (.i2l, 1) := by decide +kernel
theorem dX2_scanPlace_90 : decode cX2_scanPlace 90 = .ok (.lcmp, 1) := by decide +kernel
theorem dX2_scanPlace_91 : decode cX2_scanPlace 91 = .ok (.ifCond .gt 20, 3) := by decide +kernel
theorem dX2_scanPlace_94 : decode cX2_scanPlace 94 = .ok (.aload_n 0, 1) := by decide +kernel
theorem dX2_scanPlace_95 : decode cX2_scanPlace 95 = .ok (.getfield 21, 3) := by decide +kernel
theorem dX2_scanPlace_98 : decode cX2_scanPlace 98 = .ok (.aload_n 0, 1) := by decide +kernel
theorem dX2_scanPlace_99 : decode cX2_scanPlace 99 = .ok (.getfield 38, 3) := by decide +kernel
theorem dX2_scanPlace_102 : decode cX2_scanPlace 102 = .ok (.invokevirtual 52, 3) := by decide +kernel
theorem dX2_scanPlace_105 : decode cX2_scanPlace 105 = .ok (.invokestatic 74, 3) := by decide +kernel
theorem dX2_scanPlace_108 : decode cX2_scanPlace 108 = .ok (.ifCond .eq 13, 3) := by decide +kernel
theorem dX2_scanPlace_111 : decode cX2_scanPlace 111 = .ok (.aload_n 0, 1) := by decide +kernel
theorem dX2_scanPlace_112 : decode cX2_scanPlace 112 = .ok (.iconst 5, 1) := by decide +kernel
theorem dX2_scanPlace_113 : decode cX2_scanPlace 113 = .ok (.iload_n 1, 1) := by decide +kernel
theorem dX2_scanPlace_114 : decode cX2_scanPlace 114 = .ok (.iconst 5, 1) := by decide +kernel
theorem dX2_scanPlace_115 : decode cX2_scanPlace 115 = .ok (.invokevirtual 57, 3) := by decide +kernel
theorem dX2_scanPlace_118 : decode cX2_scanPlace 118 = .ok (.goto 17, 3) := by decide +kernel
theorem dX2_scanPlace_121 : decode cX2_scanPlace 121 = .ok (.aload_n 0, 1) := by decide +kernel
theorem dX2_scanPlace_122 : decode cX2_scanPlace 122 = .ok (.iconst 3, 1) := by decide +kernel
theorem dX2_scanPlace_123 : decode cX2_scanPlace 123 = .ok (.iload_n 1, 1) := by decide +kernel
theorem dX2_scanPlace_124 : decode cX2_scanPlace 124 = .ok (.sipush 256, 3) := by decide +kernel
theorem dX2_scanPlace_127 : decode cX2_scanPlace 127 = .ok (.iload_n 2, 1) := by decide +kernel
theorem dX2_scanPlace_128 : decode cX2_scanPlace 128 = .ok (.imul, 1) := by decide +kernel
theorem dX2_scanPlace_129 : decode cX2_scanPlace 129 = .ok (.lload_n 3, 1) := by decide +kernel
theorem dX2_scanPlace_130 : decode cX2_scanPlace 130 = .ok (.l2i, 1) := by decide +kernel
theorem dX2_scanPlace_131 : decode cX2_scanPlace 131 = .ok (.iadd, 1) := by decide +kernel
theorem dX2_scanPlace_132 : decode cX2_scanPlace 132 = .ok (.invokevirtual 57, 3) := by decide +kernel
theorem dX2_scanPlace_135 : decode cX2_scanPlace 135 = .ok (.return_, 1) := by decide +kernel

theorem dX2_isSignOfOne_0 : decode cX2_isSignOfOne 0 = .ok (.iload_n 0, 1) := by decide +kernel
theorem dX2_isSignOfOne_1 : decode cX2_isSignOfOne 1 = .ok (.lookupswitch 149 #[(38, 147), (40, 147), (41, 147), (42, 147), (43, 147), (44, 147), (45, 147), (46, 147), (47, 147), (58, 147), (59, 147), (60, 147), (61, 147), (62, 147), (91, 147), (93, 147), (124, 147)], 147) := by decide +kernel
theorem dX2_isSignOfOne_148 : decode cX2_isSignOfOne 148 = .ok (.iconst 1, 1) := by decide +kernel
theorem dX2_isSignOfOne_149 : decode cX2_isSignOfOne 149 = .ok (.ireturn, 1) := by decide +kernel
theorem dX2_isSignOfOne_150 : decode cX2_isSignOfOne 150 = .ok (.iconst 0, 1) := by decide +kernel
theorem dX2_isSignOfOne_151 : decode cX2_isSignOfOne 151 = .ok (.ireturn, 1) := by decide +kernel

theorem dX2_isSignOfTwo_0 : decode cX2_isSignOfTwo 0 = .ok (.iload_n 0, 1) := by decide +kernel
theorem dX2_isSignOfTwo_1 : decode cX2_isSignOfTwo 1 = .ok (.sipush 14909, 3) := by decide +kernel
theorem dX2_isSignOfTwo_4 : decode cX2_isSignOfTwo 4 = .ok (.if_icmp .eq 31, 3) := by decide +kernel
theorem dX2_isSignOfTwo_7 : decode cX2_isSignOfTwo 7 = .ok (.iload_n 0, 1) := by decide +kernel
theorem dX2_isSignOfTwo_8 : decode cX2_isSignOfTwo 8 = .ok (.sipush 11822, 3) := by decide +kernel
theorem dX2_isSignOfTwo_11 : decode cX2_isSignOfTwo 11 = .ok (.if_icmp .eq 24, 3) := by decide +kernel
theorem dX2_isSignOfTwo_14 : decode cX2_isSignOfTwo 14 = .ok (.iload_n 0, 1) := by decide +kernel
theorem dX2_isSignOfTwo_15 : decode cX2_isSignOfTwo 15 = .ok (.sipush 15421, 3) := by decide +kernel
theorem dX2_isSignOfTwo_18 : decode cX2_isSignOfTwo 18 = .ok (.if_icmp .eq 17, 3) := by decide +kernel
theorem dX2_isSignOfTwo_21 : decode cX2_isSignOfTwo 21 = .ok (.iload_n 0, 1) := by decide +kernel
theorem dX2_isSignOfTwo_22 : decode cX2_isSignOfTwo 22 = .ok (.sipush 15933, 3) := by decide +kernel
theorem dX2_isSignOfTwo_25 : decode cX2_isSignOfTwo 25 = .ok (.if_icmp .eq 10, 3) := by decide +kernel
theorem dX2_isSignOfTwo_28 : decode cX2_isSignOfTwo 28 = .ok (.iload_n 0, 1) := by decide +kernel
theorem dX2_isSignOfTwo_29 : decode cX2_isSignOfTwo 29 = .ok (.sipush 15422, 3) := by decide +kernel
theorem dX2_isSignOfTwo_32 : decode cX2_isSignOfTwo 32 = .ok (.if_icmp .ne 7, 3) := by decide +kernel
theorem dX2_isSignOfTwo_35 : decode cX2_isSignOfTwo 35 = .ok (.iconst 1, 1) := by decide +kernel
theorem dX2_isSignOfTwo_36 : decode cX2_isSignOfTwo 36 = .ok (.goto 4, 3) := by decide +kernel
theorem dX2_isSignOfTwo_39 : decode cX2_isSignOfTwo 39 = .ok (.iconst 0, 1) := by decide +kernel
theorem dX2_isSignOfTwo_40 : decode cX2_isSignOfTwo 40 = .ok (.ireturn, 1) := by decide +kernel

theorem dX2_scanSign_0 : decode cX2_scanSign 0 = .ok (.aload_n 0, 1) := by decide +kernel
theorem dX2_scanSign_1 : decode cX2_scanSign 1 = .ok (.getfield 38, 3) := by decide +kernel
theorem dX2_scanSign_4 : decode cX2_scanSign 4 = .ok (.istore_n 1, 1) := by decide +kernel
theorem dX2_scanSign_5 : decode cX2_scanSign 5 = .ok (.aload_n 0, 1) := by decide +kernel
theorem dX2_scanSign_6 : decode cX2_scanSign 6 = .ok (.getfield 21, 3) := by decide +kernel
theorem dX2_scanSign_9 : decode cX2_scanSign 9 = .ok (.aload_n 0, 1) := by decide +kernel
theorem dX2_scanSign_10 : decode cX2_scanSign 10 = .ok (.getfield 38, 3) := by decide +kernel
theorem dX2_scanSign_13 : decode cX2_scanSign 13 = .ok (.invokevirtual 52, 3) := by decide +kernel
theorem dX2_scanSign_16 : decode cX2_scanSign 16 = .ok (.istore_n 2, 1) := by decide +kernel
theorem dX2_scanSign_17 : decode cX2_scanSign 17 = .ok (.iload_n 2, 1) := by decide +kernel
theorem dX2_scanSign_18 : decode cX2_scanSign 18 = .ok (.bipush 8, 2) := by decide +kernel
theorem dX2_scanSign_20 : decode cX2_scanSign 20 = .ok (.ishl, 1) := by decide +kernel
theorem dX2_scanSign_21 : decode cX2_scanSign 21 = .ok (.iconst 0, 1) := by decide +kernel
theorem dX2_scanSign_22 : decode cX2_scanSign 22 = .ok (.aload_n 0, 1) := by decide +kernel
theorem dX2_scanSign_23 : decode cX2_scanSign 23 = .ok (.getfield 21, 3) := by decide +kernel
theorem dX2_scanSign_26 : decode cX2_scanSign 26 = .ok (.aload_n 0, 1) := by decide +kernel
theorem dX2_scanSign_27 : decode cX2_scanSign 27 = .ok (.getfield 38, 3) := by decide +kernel
theorem dX2_scanSign_30 : decode cX2_scanSign 30 = .ok (.iconst 1, 1) := by decide +kernel
theorem dX2_scanSign_31 : decode cX2_scanSign 31 = .ok (.iadd, 1) := by decide +kernel
theorem dX2_scanSign_32 : decode cX2_scanSign 32 = .ok (.invokevirtual 52, 3) := by decide +kernel
theorem dX2_scanSign_35 : decode cX2_scanSign 35 = .ok (.invokestatic 141, 3) := by decide +kernel
theorem dX2_scanSign_38 : decode cX2_scanSign 38 = .ok (.ior, 1) := by decide +kernel
theorem dX2_scanSign_39 : decode cX2_scanSign 39 = .ok (.istore_n 3, 1) := by decide +kernel
theorem dX2_scanSign_40 : decode cX2_scanSign 40 = .ok (.iload_n 3, 1) := by decide +kernel
theorem dX2_scanSign_41 : decode cX2_scanSign 41 = .ok (.invokestatic 144, 3) := by decide +kernel
theorem dX2_scanSign_44 : decode cX2_scanSign 44 = .ok (.ifCond .eq 23, 3) := by decide +kernel
theorem dX2_scanSign_47 : decode cX2_scanSign 47 = .ok (.aload_n 0, 1) := by decide +kernel
theorem dX2_scanSign_48 : decode cX2_scanSign 48 = .ok (.dup, 1) := by decide +kernel
theorem dX2_scanSign_49 : decode cX2_scanSign 49 = .ok (.getfield 38, 3) := by decide +kernel
theorem dX2_scanSign_52 : decode cX2_scanSign 52 = .ok (.iconst 2, 1) := by decide +kernel
theorem dX2_scanSign_53 : decode cX2_scanSign 53 = .ok (.iadd, 1) := by decide +kernel
theorem dX2_scanSign_54 : decode cX2_scanSign 54 = .ok (.putfield 38, 3) := by decide +kernel
theorem dX2_scanSign_57 : decode cX2_scanSign 57 = .ok (.aload_n 0, 1) := by decide +kernel
theorem dX2_scanSign_58 : decode cX2_scanSign 58 = .ok (.iload_n 3, 1) := by decide +kernel
theorem dX2_scanSign_59 : decode cX2_scanSign 59 = .ok (.iload_n 1, 1) := by decide +kernel
theorem dX2_scanSign_60 : decode cX2_scanSign 60 = .ok (.iconst 0, 1) := by decide +kernel
theorem dX2_scanSign_61 : decode cX2_scanSign 61 = .ok (.invokevirtual 57, 3) := by decide +kernel
theorem dX2_scanSign_64 : decode cX2_scanSign 64 = .ok (.goto 37, 3) := by decide +kernel
theorem dX2_scanSign_67 : decode cX2_scanSign 67 = .ok (.iload_n 2, 1) := by decide +kernel
theorem dX2_scanSign_68 : decode cX2_scanSign 68 = .ok (.invokestatic 147, 3) := by decide +kernel
theorem dX2_scanSign_71 : decode cX2_scanSign 71 = .ok (.ifCond .eq 23, 3) := by decide +kernel
theorem dX2_scanSign_74 : decode cX2_scanSign 74 = .ok (.aload_n 0, 1) := by decide +kernel
theorem dX2_scanSign_75 : decode cX2_scanSign 75 = .ok (.dup, 1) := by decide +kernel
theorem dX2_scanSign_76 : decode cX2_scanSign 76 = .ok (.getfield 38, 3) := by decide +kernel
theorem dX2_scanSign_79 : decode cX2_scanSign 79 = .ok (.iconst 1, 1) := by decide +kernel
theorem dX2_scanSign_80 : decode cX2_scanSign 80 = .ok (.iadd, 1) := by decide +kernel
theorem dX2_scanSign_81 : decode cX2_scanSign 81 = .ok (.putfield 38, 3) := by decide +kernel
theorem dX2_scanSign_84 : decode cX2_scanSign 84 = .ok (.aload_n 0, 1) := by decide +kernel
theorem dX2_scanSign_85 : decode cX2_scanSign 85 = .ok (.iload_n 2, 1) := by decide +kernel
theorem dX2_scanSign_86 : decode cX2_scanSign 86 = .ok (.iload_n 1, 1) := by decide +kernel
theorem dX2_scanSign_87 : decode cX2_scanSign 87 = .ok (.iconst 0, 1) := by decide +kernel
theorem dX2_scanSign_88 : decode cX2_scanSign 88 = .ok (.invokevirtual 57, 3) := by decide +kernel
theorem dX2_scanSign_91 : decode cX2_scanSign 91 = .ok (.goto 10, 3) := by decide +kernel
theorem dX2_scanSign_94 : decode cX2_scanSign 94 = .ok (.aload_n 0, 1) := by decide +kernel
theorem dX2_scanSign_95 : decode cX2_scanSign 95 = .ok (.iconst 5, 1) := by decide +kernel
theorem dX2_scanSign_96 : decode cX2_scanSign 96 = .ok (.iload_n 1, 1) := by decide +kernel
theorem dX2_scanSign_97 : decode cX2_scanSign 97 = .ok (.iconst 1, 1) := by decide +kernel
theorem dX2_scanSign_98 : decode cX2_scanSign 98 = .ok (.invokevirtual 57, 3) := by decide +kernel
theorem dX2_scanSign_101 : decode cX2_scanSign 101 = .ok (.return_, 1) := by decide +kernel

theorem dX2_unit_0 : decode cX2_unit 0 = .ok (.aload_n 0, 1) := by decide +kernel
theorem dX2_unit_1 : decode cX2_unit 1 = .ok (.getfield 21, 3) := by decide +kernel
theorem dX2_unit_4 : decode cX2_unit 4 = .ok (.aload_n 0, 1) := by decide +kernel
theorem dX2_unit_5 : decode cX2_unit 5 = .ok (.getfield 38, 3) := by decide +kernel
theorem dX2_unit_8 : decode cX2_unit 8 = .ok (.invokevirtual 52, 3) := by decide +kernel
theorem dX2_unit_11 : decode cX2_unit 11 = .ok (.invokestatic 61, 3) := by decide +kernel
theorem dX2_unit_14 : decode cX2_unit 14 = .ok (.istore_n 1, 1) := by decide +kernel
theorem dX2_unit_15 : decode cX2_unit 15 = .ok (.iload_n 1, 1) := by decide +kernel
theorem dX2_unit_16 : decode cX2_unit 16 = .ok (.bipush 77, 2) := by decide +kernel
theorem dX2_unit_18 : decode cX2_unit 18 = .ok (.if_icmp .ne 36, 3) := by decide +kernel
theorem dX2_unit_21 : decode cX2_unit 21 = .ok (.aload_n 0, 1) := by decide +kernel
theorem dX2_unit_22 : decode cX2_unit 22 = .ok (.getfield 21, 3) := by decide +kernel
theorem dX2_unit_25 : decode cX2_unit 25 = .ok (.aload_n 0, 1) := by decide +kernel
theorem dX2_unit_26 : decode cX2_unit 26 = .ok (.getfield 38, 3) := by decide +kernel
theorem dX2_unit_29 : decode cX2_unit 29 = .ok (.iconst 1, 1) := by decide +kernel
theorem dX2_unit_30 : decode cX2_unit 30 = .ok (.iadd, 1) := by decide +kernel
theorem dX2_unit_31 : decode cX2_unit 31 = .ok (.invokevirtual 52, 3) := by decide +kernel
theorem dX2_unit_34 : decode cX2_unit 34 = .ok (.invokestatic 61, 3) := by decide +kernel
theorem dX2_unit_37 : decode cX2_unit 37 = .ok (.bipush 83, 2) := by decide +kernel
theorem dX2_unit_39 : decode cX2_unit 39 = .ok (.if_icmp .ne 15, 3) := by decide +kernel
theorem dX2_unit_42 : decode cX2_unit 42 = .ok (.aload_n 0, 1) := by decide +kernel
theorem dX2_unit_43 : decode cX2_unit 43 = .ok (.dup, 1) := by decide +kernel
theorem dX2_unit_44 : decode cX2_unit 44 = .ok (.getfield 38, 3) := by decide +kernel
theorem dX2_unit_47 : decode cX2_unit 47 = .ok (.iconst 2, 1) := by decide +kernel
theorem dX2_unit_48 : decode cX2_unit 48 = .ok (.iadd, 1) := by decide +kernel
theorem dX2_unit_49 : decode cX2_unit 49 = .ok (.putfield 38, 3) := by decide +kernel
theorem dX2_unit_52 : decode cX2_unit 52 = .ok (.lconst 1, 1) := by decide +kernel
theorem dX2_unit_53 : decode cX2_unit 53 = .ok (.lreturn, 1) := by decide +kernel
theorem dX2_unit_54 : decode cX2_unit 54 = .ok (.aload_n 0, 1) := by decide +kernel
theorem dX2_unit_55 : decode cX2_unit 55 = .ok (.dup, 1) := by decide +kernel
theorem dX2_unit_56 : decode cX2_unit 56 = .ok (.getfield 38, 3) := by decide +kernel
theorem dX2_unit_59 : decode cX2_unit 59 = .ok (.iconst 1, 1) := by decide +kernel
theorem dX2_unit_60 : decode cX2_unit 60 = .ok (.iadd, 1) := by decide +kernel
theorem dX2_unit_61 : decode cX2_unit 61 = .ok (.putfield 38, 3) := by decide +kernel
theorem dX2_unit_64 : decode cX2_unit 64 = .ok (.iload_n 1, 1) := by decide +kernel
theorem dX2_unit_65 : decode cX2_unit 65 = .ok (.lookupswitch 47 #[(72, 43), (77, 39), (83, 35)], 35) := by decide +kernel
theorem dX2_unit_100 : decode cX2_unit 100 = .ok (.ldc2_w 131, 3) := by decide +kernel
theorem dX2_unit_103 : decode cX2_unit 103 = .ok (.lreturn, 1) := by decide +kernel
theorem dX2_unit_104 : decode cX2_unit 104 = .ok (.ldc2_w 133, 3) := by decide +kernel
theorem dX2_unit_107 : decode cX2_unit 107 = .ok (.lreturn, 1) := by decide +kernel
theorem dX2_unit_108 : decode cX2_unit 108 = .ok (.ldc2_w 135, 3) := by decide +kernel
theorem dX2_unit_111 : decode cX2_unit 111 = .ok (.lreturn, 1) := by decide +kernel
theorem dX2_unit_112 : decode cX2_unit 112 = .ok (.ldc2_w 108, 3) := by decide +kernel
theorem dX2_unit_115 : decode cX2_unit 115 = .ok (.lreturn, 1) := by decide +kernel

theorem dX2_scanTime_0 : decode cX2_scanTime 0 = .ok (.aload_n 0, 1) := by decide +kernel
theorem dX2_scanTime_1 : decode cX2_scanTime 1 = .ok (.getfield 38, 3) := by decide +kernel
theorem dX2_scanTime_4 : decode cX2_scanTime 4 = .ok (.istore_n 1, 1) := by decide +kernel
theorem dX2_scanTime_5 : decode cX2_scanTime 5 = .ok (.aload_n 0, 1) := by decide +kernel
theorem dX2_scanTime_6 : decode cX2_scanTime 6 = .ok (.dup, 1) := by decide +kernel
theorem dX2_scanTime_7 : decode cX2_scanTime 7 = .ok (.getfield 38, 3) := by decide +kernel
theorem dX2_scanTime_10 : decode cX2_scanTime 10 = .ok (.iconst 2, 1) := by decide +kernel
theorem dX2_scanTime_11 : decode cX2_scanTime 11 = .ok (.iadd, 1) := by decide +kernel
theorem dX2_scanTime_12 : decode cX2_scanTime 12 = .ok (.putfield 38, 3) := by decide +kernel
theorem dX2_scanTime_15 : decode cX2_scanTime 15 = .ok (.aload_n 0, 1) := by decide +kernel
theorem dX2_scanTime_16 : decode cX2_scanTime 16 = .ok (.bipush 10, 2) := by decide +kernel
theorem dX2_scanTime_18 : decode cX2_scanTime 18 = .ok (.invokevirtual 100, 3) := by decide +kernel
theorem dX2_scanTime_21 : decode cX2_scanTime 21 = .ok (.lstore_n 2, 1) := by decide +kernel
theorem dX2_scanTime_22 : decode cX2_scanTime 22 = .ok (.aload_n 0, 1) := by decide +kernel
theorem dX2_scanTime_23 : decode cX2_scanTime 23 = .ok (.invokevirtual 114, 3) := by decide +kernel
theorem dX2_scanTime_26 : decode cX2_scanTime 26 = .ok (.lstore 4, 2) := by decide +kernel
theorem dX2_scanTime_28 : decode cX2_scanTime 28 = .ok (.aload_n 0, 1) := by decide +kernel
theorem dX2_scanTime_29 : decode cX2_scanTime 29 = .ok (.iload_n 1, 1) := by decide +kernel
theorem dX2_scanTime_30 : decode cX2_scanTime 30 = .ok (.lload_n 2, 1) := by decide +kernel
theorem dX2_scanTime_31 : decode cX2_scanTime 31 = .ok (.ldc2_w 108, 3) := by decide +kernel
theorem dX2_scanTime_34 : decode cX2_scanTime 34 = .ok (.lcmp, 1) := by decide +kernel
theorem dX2_scanTime_35 : decode cX2_scanTime 35 = .ok (.ifCond .eq 12, 3) := by decide +kernel
theorem dX2_scanTime_38 : decode cX2_scanTime 38 = .ok (.lload 4, 2) := by decide +kernel
theorem dX2_scanTime_40 : decode cX2_scanTime 40 = .ok (.ldc2_w 108, 3) := by decide +kernel
theorem dX2_scanTime_43 : decode cX2_scanTime 43 = .ok (.lcmp, 1) := by decide +kernel
theorem dX2_scanTime_44 : decode cX2_scanTime 44 = .ok (.ifCond .ne 9, 3) := by decide +kernel
theorem dX2_scanTime_47 : decode cX2_scanTime 47 = .ok (.ldc2_w 108, 3) := by decide +kernel
theorem dX2_scanTime_50 : decode cX2_scanTime 50 = .ok (.goto 7, 3) := by decide +kernel
theorem dX2_scanTime_53 : decode cX2_scanTime 53 = .ok (.lload_n 2, 1) := by decide +kernel
theorem dX2_scanTime_54 : decode cX2_scanTime 54 = .ok (.lload 4, 2) := by decide +kernel
theorem dX2_scanTime_56 : decode cX2_scanTime 56 = .ok (.lmul, 1) := by decide +kernel
theorem dX2_scanTime_57 : decode cX2_scanTime 57 = .ok (.invokevirtual 110, 3) := by decide +kernel
theorem dX2_scanTime_60 : decode cX2_scanTime 60 = .ok (.return_, 1) := by decide +kernel

theorem dX2_endOfComment_0 : decode cX2_endOfComment 0 = .ok (.iload_n 1, 1) := by decide +kernel
theorem dX2_endOfComment_1 : decode cX2_endOfComment 1 = .ok (.istore_n 2, 1) := by decide +kernel
theorem dX2_endOfComment_2 : decode cX2_endOfComment 2 = .ok (.iload_n 2, 1) := by decide +kernel
theorem dX2_endOfComment_3 : decode cX2_endOfComment 3 = .ok (.aload_n 0, 1) := by decide +kernel
theorem dX2_endOfComment_4 : decode cX2_endOfComment 4 = .ok (.getfield 21, 3) := by decide +kernel
theorem dX2_endOfComment_7 : decode cX2_endOfComment 7 = .ok (.getfield 89, 3) := by decide +kernel
theorem dX2_endOfComment_10 : decode cX2_endOfComment 10 = .ok (.if_icmp .ge 41, 3) := by decide +kernel
theorem dX2_endOfComment_13 : decode cX2_endOfComment 13 = .ok (.aload_n 0, 1) := by decide +kernel
theorem dX2_endOfComment_14 : decode cX2_endOfComment 14 = .ok (.getfield 21, 3) := by decide +kernel
theorem dX2_endOfComment_17 : decode cX2_endOfComment 17 = .ok (.iload_n 2, 1) := by decide +kernel
theorem dX2_endOfComment_18 : decode cX2_endOfComment 18 = .ok (.invokevirtual 52, 3) := by decide +kernel
theorem dX2_endOfComment_21 : decode cX2_endOfComment 21 = .ok (.bipush 42, 2) := by decide +kernel
theorem dX2_endOfComment_23 : decode cX2_endOfComment 23 = .ok (.if_icmp .ne 22, 3) := by decide +kernel
theorem dX2_endOfComment_26 : decode cX2_endOfComment 26 = .ok (.aload_n 0, 1) := by decide +kernel
theorem dX2_endOfComment_27 : decode cX2_endOfComment 27 = .ok (.getfield 21, 3) := by decide +kernel
theorem dX2_endOfComment_30 : decode cX2_endOfComment 30 = .ok (.iload_n 2, 1) := by decide +kernel
theorem dX2_endOfComment_31 : decode cX2_endOfComment 31 = .ok (.iconst 1, 1) := by decide +kernel
theorem dX2_endOfComment_32 : decode cX2_endOfComment 32 = .ok (.iadd, 1) := by decide +kernel
theorem dX2_endOfComment_33 : decode cX2_endOfComment 33 = .ok (.invokevirtual 52, 3) := by decide +kernel
theorem dX2_endOfComment_36 : decode cX2_endOfComment 36 = .ok (.bipush 41, 2) := by decide +kernel
theorem dX2_endOfComment_38 : decode cX2_endOfComment 38 = .ok (.if_icmp .ne 7, 3) := by decide +kernel
theorem dX2_endOfComment_41 : decode cX2_endOfComment 41 = .ok (.iload_n 2, 1) := by decide +kernel
theorem dX2_endOfComment_42 : decode cX2_endOfComment 42 = .ok (.iconst 2, 1) := by decide +kernel
theorem dX2_endOfComment_43 : decode cX2_endOfComment 43 = .ok (.iadd, 1) := by decide +kernel
theorem dX2_endOfComment_44 : decode cX2_endOfComment 44 = .ok (.ireturn, 1) := by decide +kernel
theorem dX2_endOfComment_45 : decode cX2_endOfComment 45 = .ok (.iinc 2 1, 3) := by decide +kernel
theorem dX2_endOfComment_48 : decode cX2_endOfComment 48 = .ok (.goto (-46), 3) := by decide +kernel
theorem dX2_endOfComment_51 : decode cX2_endOfComment 51 = .ok (.iconst (-1), 1) := by decide +kernel
theorem dX2_endOfComment_52 : decode cX2_endOfComment 52 = .ok (.ireturn, 1) := by decide +kernel

theorem dX2_skipBlanks_0 : decode cX2_skipBlanks 0 = .ok (.iconst 0, 1) := by decide +kernel
theorem dX2_skipBlanks_1 : decode cX2_skipBlanks 1 = .ok (.istore_n 1, 1) := by decide +kernel
theorem dX2_skipBlanks_2 : decode cX2_skipBlanks 2 = .ok (.iload_n 1, 1) := by decide +kernel
theorem dX2_skipBlanks_3 : decode cX2_skipBlanks 3 = .ok (.sipush 8192, 3) := by decide +kernel
theorem dX2_skipBlanks_6 : decode cX2_skipBlanks 6 = .ok (.if_icmp .gt 110, 3) := by decide +kernel
theorem dX2_skipBlanks_9 : decode cX2_skipBlanks 9 = .ok (.aload_n 0, 1) := by decide +kernel
theorem dX2_skipBlanks_10 : decode cX2_skipBlanks 10 = .ok (.getfield 21, 3) := by decide +kernel
theorem dX2_skipBlanks_13 : decode cX2_skipBlanks 13 = .ok (.aload_n 0, 1) := by decide +kernel
theorem dX2_skipBlanks_14 : decode cX2_skipBlanks 14 = .ok (.getfield 38, 3) := by decide +kernel
theorem dX2_skipBlanks_17 : decode cX2_skipBlanks 17 = .ok (.invokevirtual 52, 3) := by decide +kernel
theorem dX2_skipBlanks_20 : decode cX2_skipBlanks 20 = .ok (.istore_n 2, 1) := by decide +kernel
theorem dX2_skipBlanks_21 : decode cX2_skipBlanks 21 = .ok (.iload_n 2, 1) := by decide +kernel
theorem dX2_skipBlanks_22 : decode cX2_skipBlanks 22 = .ok (.bipush 40, 2) := by decide +kernel
theorem dX2_skipBlanks_24 : decode cX2_skipBlanks 24 = .ok (.if_icmp .ne 47, 3) := by decide +kernel
theorem dX2_skipBlanks_27 : decode cX2_skipBlanks 27 = .ok (.aload_n 0, 1) := by decide +kernel
theorem dX2_skipBlanks_28 : decode cX2_skipBlanks 28 = .ok (.getfield 21, 3) := by decide +kernel
theorem dX2_skipBlanks_31 : decode cX2_skipBlanks 31 = .ok (.aload_n 0, 1) := by decide +kernel
theorem dX2_skipBlanks_32 : decode cX2_skipBlanks 32 = .ok (.getfield 38, 3) := by decide +kernel
theorem dX2_skipBlanks_35 : decode cX2_skipBlanks 35 = .ok (.iconst 1, 1) := by decide +kernel
theorem dX2_skipBlanks_36 : decode cX2_skipBlanks 36 = .ok (.iadd, 1) := by decide +kernel
theorem dX2_skipBlanks_37 : decode cX2_skipBlanks 37 = .ok (.invokevirtual 52, 3) := by decide +kernel
theorem dX2_skipBlanks_40 : decode cX2_skipBlanks 40 = .ok (.bipush 42, 2) := by decide +kernel
theorem dX2_skipBlanks_42 : decode cX2_skipBlanks 42 = .ok (.if_icmp .ne 29, 3) := by decide +kernel
theorem dX2_skipBlanks_45 : decode cX2_skipBlanks 45 = .ok (.aload_n 0, 1) := by decide +kernel
theorem dX2_skipBlanks_46 : decode cX2_skipBlanks 46 = .ok (.aload_n 0, 1) := by decide +kernel
theorem dX2_skipBlanks_47 : decode cX2_skipBlanks 47 = .ok (.getfield 38, 3) := by decide +kernel
theorem dX2_skipBlanks_50 : decode cX2_skipBlanks 50 = .ok (.iconst 2, 1) := by decide +kernel
theorem dX2_skipBlanks_51 : decode cX2_skipBlanks 51 = .ok (.iadd, 1) := by decide +kernel
theorem dX2_skipBlanks_52 : decode cX2_skipBlanks 52 = .ok (.invokevirtual 86, 3) := by decide +kernel
theorem dX2_skipBlanks_55 : decode cX2_skipBlanks 55 = .ok (.istore_n 3, 1) := by decide +kernel
theorem dX2_skipBlanks_56 : decode cX2_skipBlanks 56 = .ok (.iload_n 3, 1) := by decide +kernel
theorem dX2_skipBlanks_57 : decode cX2_skipBlanks 57 = .ok (.iconst (-1), 1) := by decide +kernel
theorem dX2_skipBlanks_58 : decode cX2_skipBlanks 58 = .ok (.if_icmp .ne 5, 3) := by decide +kernel
theorem dX2_skipBlanks_61 : decode cX2_skipBlanks 61 = .ok (.iconst 0, 1) := by decide +kernel
theorem dX2_skipBlanks_62 : decode cX2_skipBlanks 62 = .ok (.ireturn, 1) := by decide +kernel
theorem dX2_skipBlanks_63 : decode cX2_skipBlanks 63 = .ok (.aload_n 0, 1) := by decide +kernel
theorem dX2_skipBlanks_64 : decode cX2_skipBlanks 64 = .ok (.iload_n 3, 1) := by decide +kernel
theorem dX2_skipBlanks_65 : decode cX2_skipBlanks 65 = .ok (.putfield 38, 3) := by decide +kernel
theorem dX2_skipBlanks_68 : decode cX2_skipBlanks 68 = .ok (.goto 42, 3) := by decide +kernel
theorem dX2_skipBlanks_71 : decode cX2_skipBlanks 71 = .ok (.iload_n 2, 1) := by decide +kernel
theorem dX2_skipBlanks_72 : decode cX2_skipBlanks 72 = .ok (.bipush 9, 2) := by decide +kernel
theorem dX2_skipBlanks_74 : decode cX2_skipBlanks 74 = .ok (.if_icmp .eq 21, 3) := by decide +kernel
theorem dX2_skipBlanks_77 : decode cX2_skipBlanks 77 = .ok (.iload_n 2, 1) := by decide +kernel
theorem dX2_skipBlanks_78 : decode cX2_skipBlanks 78 = .ok (.bipush 10, 2) := by decide +kernel
theorem dX2_skipBlanks_80 : decode cX2_skipBlanks 80 = .ok (.if_icmp .eq 15, 3) := by decide +kernel
theorem dX2_skipBlanks_83 : decode cX2_skipBlanks 83 = .ok (.iload_n 2, 1) := by decide +kernel
theorem dX2_skipBlanks_84 : decode cX2_skipBlanks 84 = .ok (.bipush 13, 2) := by decide +kernel
theorem dX2_skipBlanks_86 : decode cX2_skipBlanks 86 = .ok (.if_icmp .eq 9, 3) := by decide +kernel
theorem dX2_skipBlanks_89 : decode cX2_skipBlanks 89 = .ok (.iload_n 2, 1) := by decide +kernel
theorem dX2_skipBlanks_90 : decode cX2_skipBlanks 90 = .ok (.bipush 32, 2) := by decide +kernel
theorem dX2_skipBlanks_92 : decode cX2_skipBlanks 92 = .ok (.if_icmp .ne 16, 3) := by decide +kernel
theorem dX2_skipBlanks_95 : decode cX2_skipBlanks 95 = .ok (.aload_n 0, 1) := by decide +kernel
theorem dX2_skipBlanks_96 : decode cX2_skipBlanks 96 = .ok (.dup, 1) := by decide +kernel
theorem dX2_skipBlanks_97 : decode cX2_skipBlanks 97 = .ok (.getfield 38, 3) := by decide +kernel
theorem dX2_skipBlanks_100 : decode cX2_skipBlanks 100 = .ok (.iconst 1, 1) := by decide +kernel
theorem dX2_skipBlanks_101 : decode cX2_skipBlanks 101 = .ok (.iadd, 1) := by decide +kernel
theorem dX2_skipBlanks_102 : decode cX2_skipBlanks 102 = .ok (.putfield 38, 3) := by decide +kernel
theorem dX2_skipBlanks_105 : decode cX2_skipBlanks 105 = .ok (.goto 5, 3) := by decide +kernel
theorem dX2_skipBlanks_108 : decode cX2_skipBlanks 108 = .ok (.iconst 1, 1) := by decide +kernel
theorem dX2_skipBlanks_109 : decode cX2_skipBlanks 109 = .ok (.ireturn, 1) := by decide +kernel
theorem dX2_skipBlanks_110 : decode cX2_skipBlanks 110 = .ok (.iinc 1 1, 3) := by decide +kernel
theorem dX2_skipBlanks_113 : decode cX2_skipBlanks 113 = .ok (.goto (-111), 3) := by decide +kernel
theorem dX2_skipBlanks_116 : decode cX2_skipBlanks 116 = .ok (.iconst 1, 1) := by decide +kernel
theorem dX2_skipBlanks_117 : decode cX2_skipBlanks 117 = .ok (.ireturn, 1) := by decide +kernel

theorem dX2_scanToken_0 : decode cX2_scanToken 0 = .ok (.aload_n 0, 1) := by decide +kernel
theorem dX2_scanToken_1 : decode cX2_scanToken 1 = .ok (.invokevirtual 48, 3) := by decide +kernel
theorem dX2_scanToken_4 : decode cX2_scanToken 4 = .ok (.istore_n 1, 1) := by decide +kernel
theorem dX2_scanToken_5 : decode cX2_scanToken 5 = .ok (.aload_n 0, 1) := by decide +kernel
theorem dX2_scanToken_6 : decode cX2_scanToken 6 = .ok (.getfield 21, 3) := by decide +kernel
theorem dX2_scanToken_9 : decode cX2_scanToken 9 = .ok (.aload_n 0, 1) := by decide +kernel
theorem dX2_scanToken_10 : decode cX2_scanToken 10 = .ok (.getfield 38, 3) := by decide +kernel
theorem dX2_scanToken_13 : decode cX2_scanToken 13 = .ok (.invokevirtual 52, 3) := by decide +kernel
theorem dX2_scanToken_16 : decode cX2_scanToken 16 = .ok (.istore_n 2, 1) := by decide +kernel
theorem dX2_scanToken_17 : decode cX2_scanToken 17 = .ok (.iload_n 1, 1) := by decide +kernel
theorem dX2_scanToken_18 : decode cX2_scanToken 18 = .ok (.ifCond .ne 16, 3) := by decide +kernel
theorem dX2_scanToken_21 : decode cX2_scanToken 21 = .ok (.aload_n 0, 1) := by decide +kernel
theorem dX2_scanToken_22 : decode cX2_scanToken 22 = .ok (.iconst 5, 1) := by decide +kernel
theorem dX2_scanToken_23 : decode cX2_scanToken 23 = .ok (.aload_n 0, 1) := by decide +kernel
theorem dX2_scanToken_24 : decode cX2_scanToken 24 = .ok (.getfield 38, 3) := by decide +kernel
theorem dX2_scanToken_27 : decode cX2_scanToken 27 = .ok (.iconst 2, 1) := by decide +kernel
theorem dX2_scanToken_28 : decode cX2_scanToken 28 = .ok (.invokevirtual 57, 3) := by decide +kernel
theorem dX2_scanToken_31 : decode cX2_scanToken 31 = .ok (.goto 100, 3) := by decide +kernel
theorem dX2_scanToken_34 : decode cX2_scanToken 34 = .ok (.iload_n 2, 1) := by decide +kernel
theorem dX2_scanToken_35 : decode cX2_scanToken 35 = .ok (.iconst (-1), 1) := by decide +kernel
theorem dX2_scanToken_36 : decode cX2_scanToken 36 = .ok (.if_icmp .ne 16, 3) := by decide +kernel
theorem dX2_scanToken_39 : decode cX2_scanToken 39 = .ok (.aload_n 0, 1) := by decide +kernel
theorem dX2_scanToken_40 : decode cX2_scanToken 40 = .ok (.iconst 4, 1) := by decide +kernel
theorem dX2_scanToken_41 : decode cX2_scanToken 41 = .ok (.aload_n 0, 1) := by decide +kernel
theorem dX2_scanToken_42 : decode cX2_scanToken 42 = .ok (.getfield 38, 3) := by decide +kernel
theorem dX2_scanToken_45 : decode cX2_scanToken 45 = .ok (.iconst 0, 1) := by decide +kernel
theorem dX2_scanToken_46 : decode cX2_scanToken 46 = .ok (.invokevirtual 57, 3) := by decide +kernel
theorem dX2_scanToken_49 : decode cX2_scanToken 49 = .ok (.goto 82, 3) := by decide +kernel
theorem dX2_scanToken_52 : decode cX2_scanToken 52 = .ok (.iload_n 2, 1) := by decide +kernel
theorem dX2_scanToken_53 : decode cX2_scanToken 53 = .ok (.invokestatic 61, 3) := by decide +kernel
theorem dX2_scanToken_56 : decode cX2_scanToken 56 = .ok (.bipush 84, 2) := by decide +kernel
theorem dX2_scanToken_58 : decode cX2_scanToken 58 = .ok (.if_icmp .ne 28, 3) := by decide +kernel
theorem dX2_scanToken_61 : decode cX2_scanToken 61 = .ok (.aload_n 0, 1) := by decide +kernel
theorem dX2_scanToken_62 : decode cX2_scanToken 62 = .ok (.getfield 21, 3) := by decide +kernel
theorem dX2_scanToken_65 : decode cX2_scanToken 65 = .ok (.aload_n 0, 1) := by decide +kernel
theorem dX2_scanToken_66 : decode cX2_scanToken 66 = .ok (.getfield 38, 3) := by decide +kernel
theorem dX2_scanToken_69 : decode cX2_scanToken 69 = .ok (.iconst 1, 1) := by decide +kernel
theorem dX2_scanToken_70 : decode cX2_scanToken 70 = .ok (.iadd, 1) := by decide +kernel
theorem dX2_scanToken_71 : decode cX2_scanToken 71 = .ok (.invokevirtual 52, 3) := by decide +kernel
theorem dX2_scanToken_74 : decode cX2_scanToken 74 = .ok (.bipush 35, 2) := by decide +kernel
theorem dX2_scanToken_76 : decode cX2_scanToken 76 = .ok (.if_icmp .ne 10, 3) := by decide +kernel
theorem dX2_scanToken_79 : decode cX2_scanToken 79 = .ok (.aload_n 0, 1) := by decide +kernel
theorem dX2_scanToken_80 : decode cX2_scanToken 80 = .ok (.invokevirtual 64, 3) := by decide +kernel
theorem dX2_scanToken_83 : decode cX2_scanToken 83 = .ok (.goto 48, 3) := by decide +kernel
theorem dX2_scanToken_86 : decode cX2_scanToken 86 = .ok (.iload_n 2, 1) := by decide +kernel
theorem dX2_scanToken_87 : decode cX2_scanToken 87 = .ok (.invokestatic 67, 3) := by decide +kernel
theorem dX2_scanToken_90 : decode cX2_scanToken 90 = .ok (.ifCond .eq 10, 3) := by decide +kernel
theorem dX2_scanToken_93 : decode cX2_scanToken 93 = .ok (.aload_n 0, 1) := by decide +kernel
theorem dX2_scanToken_94 : decode cX2_scanToken 94 = .ok (.invokevirtual 71, 3) := by decide +kernel
theorem dX2_scanToken_97 : decode cX2_scanToken 97 = .ok (.goto 34, 3) := by decide +kernel
theorem dX2_scanToken_100 : decode cX2_scanToken 100 = .ok (.iload_n 2, 1) := by decide +kernel
theorem dX2_scanToken_101 : decode cX2_scanToken 101 = .ok (.invokestatic 74, 3) := by decide +kernel
theorem dX2_scanToken_104 : decode cX2_scanToken 104 = .ok (.ifCond .eq 10, 3) := by decide +kernel
theorem dX2_scanToken_107 : decode cX2_scanToken 107 = .ok (.aload_n 0, 1) := by decide +kernel
theorem dX2_scanToken_108 : decode cX2_scanToken 108 = .ok (.invokevirtual 77, 3) := by decide +kernel
theorem dX2_scanToken_111 : decode cX2_scanToken 111 = .ok (.goto 20, 3) := by decide +kernel
theorem dX2_scanToken_114 : decode cX2_scanToken 114 = .ok (.iload_n 2, 1) := by decide +kernel
theorem dX2_scanToken_115 : decode cX2_scanToken 115 = .ok (.bipush 37, 2) := by decide +kernel
theorem dX2_scanToken_117 : decode cX2_scanToken 117 = .ok (.if_icmp .ne 10, 3) := by decide +kernel
theorem dX2_scanToken_120 : decode cX2_scanToken 120 = .ok (.aload_n 0, 1) := by decide +kernel
theorem dX2_scanToken_121 : decode cX2_scanToken 121 = .ok (.invokevirtual 80, 3) := by decide +kernel
theorem dX2_scanToken_124 : decode cX2_scanToken 124 = .ok (.goto 7, 3) := by decide +kernel
theorem dX2_scanToken_127 : decode cX2_scanToken 127 = .ok (.aload_n 0, 1) := by decide +kernel
theorem dX2_scanToken_128 : decode cX2_scanToken 128 = .ok (.invokevirtual 83, 3) := by decide +kernel
theorem dX2_scanToken_131 : decode cX2_scanToken 131 = .ok (.return_, 1) := by decide +kernel

theorem dX2_scan_0 : decode cX2_scan 0 = .ok (.aload_n 0, 1) := by decide +kernel
theorem dX2_scan_1 : decode cX2_scan 1 = .ok (.getfield 25, 3) := by decide +kernel
theorem dX2_scan_4 : decode cX2_scan 4 = .ok (.invokevirtual 33, 3) := by decide +kernel
theorem dX2_scan_7 : decode cX2_scan 7 = .ok (.aload_n 0, 1) := by decide +kernel
theorem dX2_scan_8 : decode cX2_scan 8 = .ok (.iconst 0, 1) := by decide +kernel
theorem dX2_scan_9 : decode cX2_scan 9 = .ok (.putfield 29, 3) := by decide +kernel
theorem dX2_scan_12 : decode cX2_scan 12 = .ok (.aload_n 0, 1) := by decide +kernel
theorem dX2_scan_13 : decode cX2_scan 13 = .ok (.iconst 0, 1) := by decide +kernel
theorem dX2_scan_14 : decode cX2_scan 14 = .ok (.putfield 38, 3) := by decide +kernel
theorem dX2_scan_17 : decode cX2_scan 17 = .ok (.iconst 1, 1) := by decide +kernel
theorem dX2_scan_18 : decode cX2_scan 18 = .ok (.istore_n 1, 1) := by decide +kernel
theorem dX2_scan_19 : decode cX2_scan 19 = .ok (.iconst 0, 1) := by decide +kernel
theorem dX2_scan_20 : decode cX2_scan 20 = .ok (.istore_n 2, 1) := by decide +kernel
theorem dX2_scan_21 : decode cX2_scan 21 = .ok (.iload_n 1, 1) := by decide +kernel
theorem dX2_scan_22 : decode cX2_scan 22 = .ok (.ifCond .eq 47, 3) := by decide +kernel
theorem dX2_scan_25 : decode cX2_scan 25 = .ok (.iload_n 2, 1) := by decide +kernel
theorem dX2_scan_26 : decode cX2_scan 26 = .ok (.sipush 8193, 3) := by decide +kernel
theorem dX2_scan_29 : decode cX2_scan 29 = .ok (.if_icmp .ge 40, 3) := by decide +kernel
theorem dX2_scan_32 : decode cX2_scan 32 = .ok (.aload_n 0, 1) := by decide +kernel
theorem dX2_scan_33 : decode cX2_scan 33 = .ok (.invokevirtual 41, 3) := by decide +kernel
theorem dX2_scan_36 : decode cX2_scan 36 = .ok (.aload_n 0, 1) := by decide +kernel
theorem dX2_scan_37 : decode cX2_scan 37 = .ok (.aload_n 0, 1) := by decide +kernel
theorem dX2_scan_38 : decode cX2_scan 38 = .ok (.getfield 29, 3) := by decide +kernel
theorem dX2_scan_41 : decode cX2_scan 41 = .ok (.iconst 1, 1) := by decide +kernel
theorem dX2_scan_42 : decode cX2_scan 42 = .ok (.isub, 1) := by decide +kernel
theorem dX2_scan_43 : decode cX2_scan 43 = .ok (.invokevirtual 44, 3) := by decide +kernel
theorem dX2_scan_46 : decode cX2_scan 46 = .ok (.istore_n 3, 1) := by decide +kernel
theorem dX2_scan_47 : decode cX2_scan 47 = .ok (.iload_n 3, 1) := by decide +kernel
theorem dX2_scan_48 : decode cX2_scan 48 = .ok (.iconst 4, 1) := by decide +kernel
theorem dX2_scan_49 : decode cX2_scan 49 = .ok (.if_icmp .eq 12, 3) := by decide +kernel
theorem dX2_scan_52 : decode cX2_scan 52 = .ok (.iload_n 3, 1) := by decide +kernel
theorem dX2_scan_53 : decode cX2_scan 53 = .ok (.iconst 5, 1) := by decide +kernel
theorem dX2_scan_54 : decode cX2_scan 54 = .ok (.if_icmp .eq 7, 3) := by decide +kernel
theorem dX2_scan_57 : decode cX2_scan 57 = .ok (.iconst 1, 1) := by decide +kernel
theorem dX2_scan_58 : decode cX2_scan 58 = .ok (.goto 4, 3) := by decide +kernel
theorem dX2_scan_61 : decode cX2_scan 61 = .ok (.iconst 0, 1) := by decide +kernel
theorem dX2_scan_62 : decode cX2_scan 62 = .ok (.istore_n 1, 1) := by decide +kernel
theorem dX2_scan_63 : decode cX2_scan 63 = .ok (.iinc 2 1, 3) := by decide +kernel
theorem dX2_scan_66 : decode cX2_scan 66 = .ok (.goto (-45), 3) := by decide +kernel
theorem dX2_scan_69 : decode cX2_scan 69 = .ok (.return_, 1) := by decide +kernel
