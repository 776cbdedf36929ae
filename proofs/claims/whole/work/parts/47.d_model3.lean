theorem dX8_step_0 : decode cX8_step 0 = .ok (.aload_n 0, 1) := by decide +kernel
theorem dX8_step_1 : decode cX8_step 1 = .ok (.aload_n 0, 1) := by decide +kernel
theorem dX8_step_2 : decode cX8_step 2 = .ok (.getfield 119, 3) := by decide +kernel
theorem dX8_step_5 : decode cX8_step 5 = .ok (.putfield 166, 3) := by decide +kernel
theorem dX8_step_8 : decode cX8_step 8 = .ok (.aload_n 0, 1) := by decide +kernel
theorem dX8_step_9 : decode cX8_step 9 = .ok (.invokevirtual 169, 3) := by decide +kernel
theorem dX8_step_12 : decode cX8_step 12 = .ok (.aload_n 0, 1) := by decide +kernel
theorem dX8_step_13 : decode cX8_step 13 = .ok (.aload_n 0, 1) := by decide +kernel
theorem dX8_step_14 : decode cX8_step 14 = .ok (.getfield 103, 3) := by decide +kernel
theorem dX8_step_17 : decode cX8_step 17 = .ok (.aload_n 0, 1) := by decide +kernel
theorem dX8_step_18 : decode cX8_step 18 = .ok (.getfield 86, 3) := by decide +kernel
theorem dX8_step_21 : decode cX8_step 21 = .ok (.if_icmp .ge 10, 3) := by decide +kernel
theorem dX8_step_24 : decode cX8_step 24 = .ok (.aload_n 0, 1) := by decide +kernel
theorem dX8_step_25 : decode cX8_step 25 = .ok (.getfield 103, 3) := by decide +kernel
theorem dX8_step_28 : decode cX8_step 28 = .ok (.goto 7, 3) := by decide +kernel
theorem dX8_step_31 : decode cX8_step 31 = .ok (.aload_n 0, 1) := by decide +kernel
theorem dX8_step_32 : decode cX8_step 32 = .ok (.getfield 86, 3) := by decide +kernel
theorem dX8_step_35 : decode cX8_step 35 = .ok (.putfield 119, 3) := by decide +kernel
theorem dX8_step_38 : decode cX8_step 38 = .ok (.aload_n 0, 1) := by decide +kernel
theorem dX8_step_39 : decode cX8_step 39 = .ok (.getfield 100, 3) := by decide +kernel
theorem dX8_step_42 : decode cX8_step 42 = .ok (.ifCond .le 4, 3) := by decide +kernel
theorem dX8_step_45 : decode cX8_step 45 = .ok (.return_, 1) := by decide +kernel
theorem dX8_step_46 : decode cX8_step 46 = .ok (.aload_n 0, 1) := by decide +kernel
theorem dX8_step_47 : decode cX8_step 47 = .ok (.aload_n 0, 1) := by decide +kernel
theorem dX8_step_48 : decode cX8_step 48 = .ok (.getfield 119, 3) := by decide +kernel
theorem dX8_step_51 : decode cX8_step 51 = .ok (.invokevirtual 89, 3) := by decide +kernel
theorem dX8_step_54 : decode cX8_step 54 = .ok (.istore_n 1, 1) := by decide +kernel
theorem dX8_step_55 : decode cX8_step 55 = .ok (.iload_n 1, 1) := by decide +kernel
theorem dX8_step_56 : decode cX8_step 56 = .ok (.iconst (-1), 1) := by decide +kernel
theorem dX8_step_57 : decode cX8_step 57 = .ok (.if_icmp .ne 12, 3) := by decide +kernel
theorem dX8_step_60 : decode cX8_step 60 = .ok (.aload_n 0, 1) := by decide +kernel
theorem dX8_step_61 : decode cX8_step 61 = .ok (.bipush 83, 2) := by decide +kernel
theorem dX8_step_63 : decode cX8_step 63 = .ok (.putfield 126, 3) := by decide +kernel
theorem dX8_step_66 : decode cX8_step 66 = .ok (.goto 84, 3) := by decide +kernel
theorem dX8_step_69 : decode cX8_step 69 = .ok (.iload_n 1, 1) := by decide +kernel
theorem dX8_step_70 : decode cX8_step 70 = .ok (.bipush 84, 2) := by decide +kernel
theorem dX8_step_72 : decode cX8_step 72 = .ok (.if_icmp .eq 9, 3) := by decide +kernel
theorem dX8_step_75 : decode cX8_step 75 = .ok (.iload_n 1, 1) := by decide +kernel
theorem dX8_step_76 : decode cX8_step 76 = .ok (.bipush 116, 2) := by decide +kernel
theorem dX8_step_78 : decode cX8_step 78 = .ok (.if_icmp .ne 26, 3) := by decide +kernel
theorem dX8_step_81 : decode cX8_step 81 = .ok (.aload_n 0, 1) := by decide +kernel
theorem dX8_step_82 : decode cX8_step 82 = .ok (.aload_n 0, 1) := by decide +kernel
theorem dX8_step_83 : decode cX8_step 83 = .ok (.getfield 119, 3) := by decide +kernel
theorem dX8_step_86 : decode cX8_step 86 = .ok (.iconst 1, 1) := by decide +kernel
theorem dX8_step_87 : decode cX8_step 87 = .ok (.iadd, 1) := by decide +kernel
theorem dX8_step_88 : decode cX8_step 88 = .ok (.invokevirtual 89, 3) := by decide +kernel
theorem dX8_step_91 : decode cX8_step 91 = .ok (.bipush 35, 2) := by decide +kernel
theorem dX8_step_93 : decode cX8_step 93 = .ok (.if_icmp .ne 11, 3) := by decide +kernel
theorem dX8_step_96 : decode cX8_step 96 = .ok (.aload_n 0, 1) := by decide +kernel
theorem dX8_step_97 : decode cX8_step 97 = .ok (.iconst 1, 1) := by decide +kernel
theorem dX8_step_98 : decode cX8_step 98 = .ok (.invokevirtual 172, 3) := by decide +kernel
theorem dX8_step_101 : decode cX8_step 101 = .ok (.goto 49, 3) := by decide +kernel
theorem dX8_step_104 : decode cX8_step 104 = .ok (.iload_n 1, 1) := by decide +kernel
theorem dX8_step_105 : decode cX8_step 105 = .ok (.invokestatic 93, 3) := by decide +kernel
theorem dX8_step_108 : decode cX8_step 108 = .ok (.ifCond .eq 10, 3) := by decide +kernel
theorem dX8_step_111 : decode cX8_step 111 = .ok (.aload_n 0, 1) := by decide +kernel
theorem dX8_step_112 : decode cX8_step 112 = .ok (.invokevirtual 176, 3) := by decide +kernel
theorem dX8_step_115 : decode cX8_step 115 = .ok (.goto 35, 3) := by decide +kernel
theorem dX8_step_118 : decode cX8_step 118 = .ok (.iload_n 1, 1) := by decide +kernel
theorem dX8_step_119 : decode cX8_step 119 = .ok (.invokestatic 97, 3) := by decide +kernel
theorem dX8_step_122 : decode cX8_step 122 = .ok (.ifCond .eq 11, 3) := by decide +kernel
theorem dX8_step_125 : decode cX8_step 125 = .ok (.aload_n 0, 1) := by decide +kernel
theorem dX8_step_126 : decode cX8_step 126 = .ok (.iconst 0, 1) := by decide +kernel
theorem dX8_step_127 : decode cX8_step 127 = .ok (.invokevirtual 172, 3) := by decide +kernel
theorem dX8_step_130 : decode cX8_step 130 = .ok (.goto 20, 3) := by decide +kernel
theorem dX8_step_133 : decode cX8_step 133 = .ok (.iload_n 1, 1) := by decide +kernel
theorem dX8_step_134 : decode cX8_step 134 = .ok (.bipush 37, 2) := by decide +kernel
theorem dX8_step_136 : decode cX8_step 136 = .ok (.if_icmp .ne 10, 3) := by decide +kernel
theorem dX8_step_139 : decode cX8_step 139 = .ok (.aload_n 0, 1) := by decide +kernel
theorem dX8_step_140 : decode cX8_step 140 = .ok (.invokevirtual 179, 3) := by decide +kernel
theorem dX8_step_143 : decode cX8_step 143 = .ok (.goto 7, 3) := by decide +kernel
theorem dX8_step_146 : decode cX8_step 146 = .ok (.aload_n 0, 1) := by decide +kernel
theorem dX8_step_147 : decode cX8_step 147 = .ok (.invokevirtual 182, 3) := by decide +kernel
theorem dX8_step_150 : decode cX8_step 150 = .ok (.return_, 1) := by decide +kernel

theorem dX8_make_0 : decode cX8_make 0 = .ok (.aload_n 0, 1) := by decide +kernel
theorem dX8_make_1 : decode cX8_make 1 = .ok (.getfield 35, 3) := by decide +kernel
theorem dX8_make_4 : decode cX8_make 4 = .ok (.aload_n 0, 1) := by decide +kernel
theorem dX8_make_5 : decode cX8_make 5 = .ok (.getfield 185, 3) := by decide +kernel
theorem dX8_make_8 : decode cX8_make 8 = .ok (.iload_n 1, 1) := by decide +kernel
theorem dX8_make_9 : decode cX8_make 9 = .ok (.iastore, 1) := by decide +kernel
theorem dX8_make_10 : decode cX8_make 10 = .ok (.aload_n 0, 1) := by decide +kernel
theorem dX8_make_11 : decode cX8_make 11 = .ok (.getfield 38, 3) := by decide +kernel
theorem dX8_make_14 : decode cX8_make 14 = .ok (.aload_n 0, 1) := by decide +kernel
theorem dX8_make_15 : decode cX8_make 15 = .ok (.getfield 185, 3) := by decide +kernel
theorem dX8_make_18 : decode cX8_make 18 = .ok (.iload_n 2, 1) := by decide +kernel
theorem dX8_make_19 : decode cX8_make 19 = .ok (.iastore, 1) := by decide +kernel
theorem dX8_make_20 : decode cX8_make 20 = .ok (.aload_n 0, 1) := by decide +kernel
theorem dX8_make_21 : decode cX8_make 21 = .ok (.getfield 41, 3) := by decide +kernel
theorem dX8_make_24 : decode cX8_make 24 = .ok (.aload_n 0, 1) := by decide +kernel
theorem dX8_make_25 : decode cX8_make 25 = .ok (.getfield 185, 3) := by decide +kernel
theorem dX8_make_28 : decode cX8_make 28 = .ok (.iload_n 3, 1) := by decide +kernel
theorem dX8_make_29 : decode cX8_make 29 = .ok (.iastore, 1) := by decide +kernel
theorem dX8_make_30 : decode cX8_make 30 = .ok (.aload_n 0, 1) := by decide +kernel
theorem dX8_make_31 : decode cX8_make 31 = .ok (.getfield 44, 3) := by decide +kernel
theorem dX8_make_34 : decode cX8_make 34 = .ok (.aload_n 0, 1) := by decide +kernel
theorem dX8_make_35 : decode cX8_make 35 = .ok (.getfield 185, 3) := by decide +kernel
theorem dX8_make_38 : decode cX8_make 38 = .ok (.iconst (-1), 1) := by decide +kernel
theorem dX8_make_39 : decode cX8_make 39 = .ok (.iastore, 1) := by decide +kernel
theorem dX8_make_40 : decode cX8_make 40 = .ok (.aload_n 0, 1) := by decide +kernel
theorem dX8_make_41 : decode cX8_make 41 = .ok (.getfield 47, 3) := by decide +kernel
theorem dX8_make_44 : decode cX8_make 44 = .ok (.aload_n 0, 1) := by decide +kernel
theorem dX8_make_45 : decode cX8_make 45 = .ok (.getfield 185, 3) := by decide +kernel
theorem dX8_make_48 : decode cX8_make 48 = .ok (.iconst (-1), 1) := by decide +kernel
theorem dX8_make_49 : decode cX8_make 49 = .ok (.iastore, 1) := by decide +kernel
theorem dX8_make_50 : decode cX8_make 50 = .ok (.aload_n 0, 1) := by decide +kernel
theorem dX8_make_51 : decode cX8_make 51 = .ok (.getfield 50, 3) := by decide +kernel
theorem dX8_make_54 : decode cX8_make 54 = .ok (.aload_n 0, 1) := by decide +kernel
theorem dX8_make_55 : decode cX8_make 55 = .ok (.getfield 185, 3) := by decide +kernel
theorem dX8_make_58 : decode cX8_make 58 = .ok (.iconst (-1), 1) := by decide +kernel
theorem dX8_make_59 : decode cX8_make 59 = .ok (.iastore, 1) := by decide +kernel
theorem dX8_make_60 : decode cX8_make 60 = .ok (.aload_n 0, 1) := by decide +kernel
theorem dX8_make_61 : decode cX8_make 61 = .ok (.getfield 53, 3) := by decide +kernel
theorem dX8_make_64 : decode cX8_make 64 = .ok (.aload_n 0, 1) := by decide +kernel
theorem dX8_make_65 : decode cX8_make 65 = .ok (.getfield 185, 3) := by decide +kernel
theorem dX8_make_68 : decode cX8_make 68 = .ok (.iconst (-1), 1) := by decide +kernel
theorem dX8_make_69 : decode cX8_make 69 = .ok (.iastore, 1) := by decide +kernel
theorem dX8_make_70 : decode cX8_make 70 = .ok (.aload_n 0, 1) := by decide +kernel
theorem dX8_make_71 : decode cX8_make 71 = .ok (.dup, 1) := by decide +kernel
theorem dX8_make_72 : decode cX8_make 72 = .ok (.getfield 185, 3) := by decide +kernel
theorem dX8_make_75 : decode cX8_make 75 = .ok (.iconst 1, 1) := by decide +kernel
theorem dX8_make_76 : decode cX8_make 76 = .ok (.iadd, 1) := by decide +kernel
theorem dX8_make_77 : decode cX8_make 77 = .ok (.putfield 185, 3) := by decide +kernel
theorem dX8_make_80 : decode cX8_make 80 = .ok (.aload_n 0, 1) := by decide +kernel
theorem dX8_make_81 : decode cX8_make 81 = .ok (.getfield 185, 3) := by decide +kernel
theorem dX8_make_84 : decode cX8_make 84 = .ok (.iconst 1, 1) := by decide +kernel
theorem dX8_make_85 : decode cX8_make 85 = .ok (.isub, 1) := by decide +kernel
theorem dX8_make_86 : decode cX8_make 86 = .ok (.ireturn, 1) := by decide +kernel

theorem dX8_hang_0 : decode cX8_hang 0 = .ok (.aload_n 0, 1) := by decide +kernel
theorem dX8_hang_1 : decode cX8_hang 1 = .ok (.getfield 44, 3) := by decide +kernel
theorem dX8_hang_4 : decode cX8_hang 4 = .ok (.iload_n 1, 1) := by decide +kernel
theorem dX8_hang_5 : decode cX8_hang 5 = .ok (.iload_n 2, 1) := by decide +kernel
theorem dX8_hang_6 : decode cX8_hang 6 = .ok (.iastore, 1) := by decide +kernel
theorem dX8_hang_7 : decode cX8_hang 7 = .ok (.aload_n 0, 1) := by decide +kernel
theorem dX8_hang_8 : decode cX8_hang 8 = .ok (.getfield 47, 3) := by decide +kernel
theorem dX8_hang_11 : decode cX8_hang 11 = .ok (.iload_n 2, 1) := by decide +kernel
theorem dX8_hang_12 : decode cX8_hang 12 = .ok (.iaload, 1) := by decide +kernel
theorem dX8_hang_13 : decode cX8_hang 13 = .ok (.iconst (-1), 1) := by decide +kernel
theorem dX8_hang_14 : decode cX8_hang 14 = .ok (.if_icmp .ne 13, 3) := by decide +kernel
theorem dX8_hang_17 : decode cX8_hang 17 = .ok (.aload_n 0, 1) := by decide +kernel
theorem dX8_hang_18 : decode cX8_hang 18 = .ok (.getfield 47, 3) := by decide +kernel
theorem dX8_hang_21 : decode cX8_hang 21 = .ok (.iload_n 2, 1) := by decide +kernel
theorem dX8_hang_22 : decode cX8_hang 22 = .ok (.iload_n 1, 1) := by decide +kernel
theorem dX8_hang_23 : decode cX8_hang 23 = .ok (.iastore, 1) := by decide +kernel
theorem dX8_hang_24 : decode cX8_hang 24 = .ok (.goto 15, 3) := by decide +kernel
theorem dX8_hang_27 : decode cX8_hang 27 = .ok (.aload_n 0, 1) := by decide +kernel
theorem dX8_hang_28 : decode cX8_hang 28 = .ok (.getfield 53, 3) := by decide +kernel
theorem dX8_hang_31 : decode cX8_hang 31 = .ok (.aload_n 0, 1) := by decide +kernel
theorem dX8_hang_32 : decode cX8_hang 32 = .ok (.getfield 50, 3) := by decide +kernel
theorem dX8_hang_35 : decode cX8_hang 35 = .ok (.iload_n 2, 1) := by decide +kernel
theorem dX8_hang_36 : decode cX8_hang 36 = .ok (.iaload, 1) := by decide +kernel
theorem dX8_hang_37 : decode cX8_hang 37 = .ok (.iload_n 1, 1) := by decide +kernel
theorem dX8_hang_38 : decode cX8_hang 38 = .ok (.iastore, 1) := by decide +kernel
theorem dX8_hang_39 : decode cX8_hang 39 = .ok (.aload_n 0, 1) := by decide +kernel
theorem dX8_hang_40 : decode cX8_hang 40 = .ok (.getfield 50, 3) := by decide +kernel
theorem dX8_hang_43 : decode cX8_hang 43 = .ok (.iload_n 2, 1) := by decide +kernel
theorem dX8_hang_44 : decode cX8_hang 44 = .ok (.iload_n 1, 1) := by decide +kernel
theorem dX8_hang_45 : decode cX8_hang 45 = .ok (.iastore, 1) := by decide +kernel
theorem dX8_hang_46 : decode cX8_hang 46 = .ok (.return_, 1) := by decide +kernel

theorem dX8_leaf_0 : decode cX8_leaf 0 = .ok (.aload_n 0, 1) := by decide +kernel
theorem dX8_leaf_1 : decode cX8_leaf 1 = .ok (.aload_n 0, 1) := by decide +kernel
theorem dX8_leaf_2 : decode cX8_leaf 2 = .ok (.iload_n 1, 1) := by decide +kernel
theorem dX8_leaf_3 : decode cX8_leaf 3 = .ok (.iload_n 2, 1) := by decide +kernel
theorem dX8_leaf_4 : decode cX8_leaf 4 = .ok (.iload_n 3, 1) := by decide +kernel
theorem dX8_leaf_5 : decode cX8_leaf 5 = .ok (.invokevirtual 188, 3) := by decide +kernel
theorem dX8_leaf_8 : decode cX8_leaf 8 = .ok (.aload_n 0, 1) := by decide +kernel
theorem dX8_leaf_9 : decode cX8_leaf 9 = .ok (.getfield 192, 3) := by decide +kernel
theorem dX8_leaf_12 : decode cX8_leaf 12 = .ok (.invokevirtual 195, 3) := by decide +kernel
theorem dX8_leaf_15 : decode cX8_leaf 15 = .ok (.return_, 1) := by decide +kernel

theorem dX8_down_0 : decode cX8_down 0 = .ok (.aload_n 0, 1) := by decide +kernel
theorem dX8_down_1 : decode cX8_down 1 = .ok (.iload_n 1, 1) := by decide +kernel
theorem dX8_down_2 : decode cX8_down 2 = .ok (.iload_n 2, 1) := by decide +kernel
theorem dX8_down_3 : decode cX8_down 3 = .ok (.iload_n 3, 1) := by decide +kernel
theorem dX8_down_4 : decode cX8_down 4 = .ok (.invokevirtual 188, 3) := by decide +kernel
theorem dX8_down_7 : decode cX8_down 7 = .ok (.istore 4, 2) := by decide +kernel
theorem dX8_down_9 : decode cX8_down 9 = .ok (.aload_n 0, 1) := by decide +kernel
theorem dX8_down_10 : decode cX8_down 10 = .ok (.iload 4, 2) := by decide +kernel
theorem dX8_down_12 : decode cX8_down 12 = .ok (.aload_n 0, 1) := by decide +kernel
theorem dX8_down_13 : decode cX8_down 13 = .ok (.getfield 192, 3) := by decide +kernel
theorem dX8_down_16 : decode cX8_down 16 = .ok (.invokevirtual 195, 3) := by decide +kernel
theorem dX8_down_19 : decode cX8_down 19 = .ok (.aload_n 0, 1) := by decide +kernel
theorem dX8_down_20 : decode cX8_down 20 = .ok (.iload 4, 2) := by decide +kernel
theorem dX8_down_22 : decode cX8_down 22 = .ok (.putfield 192, 3) := by decide +kernel
theorem dX8_down_25 : decode cX8_down 25 = .ok (.return_, 1) := by decide +kernel

theorem dX8_push_0 : decode cX8_push 0 = .ok (.aload_n 0, 1) := by decide +kernel
theorem dX8_push_1 : decode cX8_push 1 = .ok (.getfield 56, 3) := by decide +kernel
theorem dX8_push_4 : decode cX8_push 4 = .ok (.aload_n 0, 1) := by decide +kernel
theorem dX8_push_5 : decode cX8_push 5 = .ok (.getfield 198, 3) := by decide +kernel
theorem dX8_push_8 : decode cX8_push 8 = .ok (.iload_n 1, 1) := by decide +kernel
theorem dX8_push_9 : decode cX8_push 9 = .ok (.iastore, 1) := by decide +kernel
theorem dX8_push_10 : decode cX8_push 10 = .ok (.aload_n 0, 1) := by decide +kernel
theorem dX8_push_11 : decode cX8_push 11 = .ok (.dup, 1) := by decide +kernel
theorem dX8_push_12 : decode cX8_push 12 = .ok (.getfield 198, 3) := by decide +kernel
theorem dX8_push_15 : decode cX8_push 15 = .ok (.iconst 1, 1) := by decide +kernel
theorem dX8_push_16 : decode cX8_push 16 = .ok (.iadd, 1) := by decide +kernel
theorem dX8_push_17 : decode cX8_push 17 = .ok (.putfield 198, 3) := by decide +kernel
theorem dX8_push_20 : decode cX8_push 20 = .ok (.return_, 1) := by decide +kernel

theorem dX8_push2_0 : decode cX8_push2 0 = .ok (.aload_n 0, 1) := by decide +kernel
theorem dX8_push2_1 : decode cX8_push2 1 = .ok (.iload_n 1, 1) := by decide +kernel
theorem dX8_push2_2 : decode cX8_push2 2 = .ok (.invokevirtual 201, 3) := by decide +kernel
theorem dX8_push2_5 : decode cX8_push2 5 = .ok (.aload_n 0, 1) := by decide +kernel
theorem dX8_push2_6 : decode cX8_push2 6 = .ok (.iload_n 2, 1) := by decide +kernel
theorem dX8_push2_7 : decode cX8_push2 7 = .ok (.invokevirtual 201, 3) := by decide +kernel
theorem dX8_push2_10 : decode cX8_push2 10 = .ok (.return_, 1) := by decide +kernel

theorem dX8_push4_0 : decode cX8_push4 0 = .ok (.aload_n 0, 1) := by decide +kernel
theorem dX8_push4_1 : decode cX8_push4 1 = .ok (.iload_n 1, 1) := by decide +kernel
theorem dX8_push4_2 : decode cX8_push4 2 = .ok (.iload_n 2, 1) := by decide +kernel
theorem dX8_push4_3 : decode cX8_push4 3 = .ok (.invokevirtual 205, 3) := by decide +kernel
theorem dX8_push4_6 : decode cX8_push4 6 = .ok (.aload_n 0, 1) := by decide +kernel
theorem dX8_push4_7 : decode cX8_push4 7 = .ok (.iload_n 3, 1) := by decide +kernel
theorem dX8_push4_8 : decode cX8_push4 8 = .ok (.iload 4, 2) := by decide +kernel
theorem dX8_push4_10 : decode cX8_push4 10 = .ok (.invokevirtual 205, 3) := by decide +kernel
theorem dX8_push4_13 : decode cX8_push4 13 = .ok (.return_, 1) := by decide +kernel

theorem dX8_pushExpression_0 : decode cX8_pushExpression 0 = .ok (.aload_n 0, 1) := by decide +kernel
theorem dX8_pushExpression_1 : decode cX8_pushExpression 1 = .ok (.sipush 137, 3) := by decide +kernel
theorem dX8_pushExpression_4 : decode cX8_pushExpression 4 = .ok (.sipush 134, 3) := by decide +kernel
theorem dX8_pushExpression_7 : decode cX8_pushExpression 7 = .ok (.invokevirtual 205, 3) := by decide +kernel
theorem dX8_pushExpression_10 : decode cX8_pushExpression 10 = .ok (.return_, 1) := by decide +kernel

theorem dX8_wrong_0 : decode cX8_wrong 0 = .ok (.aload_n 0, 1) := by decide +kernel
theorem dX8_wrong_1 : decode cX8_wrong 1 = .ok (.bipush 6, 2) := by decide +kernel
theorem dX8_wrong_3 : decode cX8_wrong 3 = .ok (.aload_n 0, 1) := by decide +kernel
theorem dX8_wrong_4 : decode cX8_wrong 4 = .ok (.getfield 119, 3) := by decide +kernel
theorem dX8_wrong_7 : decode cX8_wrong 7 = .ok (.invokevirtual 106, 3) := by decide +kernel
theorem dX8_wrong_10 : decode cX8_wrong 10 = .ok (.return_, 1) := by decide +kernel

theorem dX8_pass_0 : decode cX8_pass 0 = .ok (.aload_n 0, 1) := by decide +kernel
theorem dX8_pass_1 : decode cX8_pass 1 = .ok (.getfield 126, 3) := by decide +kernel
theorem dX8_pass_4 : decode cX8_pass 4 = .ok (.iload_n 1, 1) := by decide +kernel
theorem dX8_pass_5 : decode cX8_pass 5 = .ok (.if_icmp .ne 10, 3) := by decide +kernel
theorem dX8_pass_8 : decode cX8_pass 8 = .ok (.aload_n 0, 1) := by decide +kernel
theorem dX8_pass_9 : decode cX8_pass 9 = .ok (.invokevirtual 208, 3) := by decide +kernel
theorem dX8_pass_12 : decode cX8_pass 12 = .ok (.goto 7, 3) := by decide +kernel
theorem dX8_pass_15 : decode cX8_pass 15 = .ok (.aload_n 0, 1) := by decide +kernel
theorem dX8_pass_16 : decode cX8_pass 16 = .ok (.invokevirtual 211, 3) := by decide +kernel
theorem dX8_pass_19 : decode cX8_pass 19 = .ok (.return_, 1) := by decide +kernel

theorem dX8_opens_0 : decode cX8_opens 0 = .ok (.aload_n 0, 1) := by decide +kernel
theorem dX8_opens_1 : decode cX8_opens 1 = .ok (.getfield 214, 3) := by decide +kernel
theorem dX8_opens_4 : decode cX8_opens 4 = .ok (.bipush 60, 2) := by decide +kernel
theorem dX8_opens_6 : decode cX8_opens 6 = .ok (.if_icmp .ne 15, 3) := by decide +kernel
theorem dX8_opens_9 : decode cX8_opens 9 = .ok (.aload_n 0, 1) := by decide +kernel
theorem dX8_opens_10 : decode cX8_opens 10 = .ok (.bipush 7, 2) := by decide +kernel
theorem dX8_opens_12 : decode cX8_opens 12 = .ok (.aload_n 0, 1) := by decide +kernel
theorem dX8_opens_13 : decode cX8_opens 13 = .ok (.getfield 119, 3) := by decide +kernel
theorem dX8_opens_16 : decode cX8_opens 16 = .ok (.invokevirtual 106, 3) := by decide +kernel
theorem dX8_opens_19 : decode cX8_opens 19 = .ok (.iconst 0, 1) := by decide +kernel
theorem dX8_opens_20 : decode cX8_opens 20 = .ok (.ireturn, 1) := by decide +kernel
theorem dX8_opens_21 : decode cX8_opens 21 = .ok (.aload_n 0, 1) := by decide +kernel
theorem dX8_opens_22 : decode cX8_opens 22 = .ok (.dup, 1) := by decide +kernel
theorem dX8_opens_23 : decode cX8_opens 23 = .ok (.getfield 214, 3) := by decide +kernel
theorem dX8_opens_26 : decode cX8_opens 26 = .ok (.iconst 1, 1) := by decide +kernel
theorem dX8_opens_27 : decode cX8_opens 27 = .ok (.iadd, 1) := by decide +kernel
theorem dX8_opens_28 : decode cX8_opens 28 = .ok (.putfield 214, 3) := by decide +kernel
theorem dX8_opens_31 : decode cX8_opens 31 = .ok (.iconst 1, 1) := by decide +kernel
theorem dX8_opens_32 : decode cX8_opens 32 = .ok (.ireturn, 1) := by decide +kernel

theorem dX8_keepName_0 : decode cX8_keepName 0 = .ok (.aload_n 0, 1) := by decide +kernel
theorem dX8_keepName_1 : decode cX8_keepName 1 = .ok (.aload_n 0, 1) := by decide +kernel
theorem dX8_keepName_2 : decode cX8_keepName 2 = .ok (.getfield 119, 3) := by decide +kernel
theorem dX8_keepName_5 : decode cX8_keepName 5 = .ok (.putfield 217, 3) := by decide +kernel
theorem dX8_keepName_8 : decode cX8_keepName 8 = .ok (.aload_n 0, 1) := by decide +kernel
theorem dX8_keepName_9 : decode cX8_keepName 9 = .ok (.aload_n 0, 1) := by decide +kernel
theorem dX8_keepName_10 : decode cX8_keepName 10 = .ok (.getfield 132, 3) := by decide +kernel
theorem dX8_keepName_13 : decode cX8_keepName 13 = .ok (.putfield 220, 3) := by decide +kernel
theorem dX8_keepName_16 : decode cX8_keepName 16 = .ok (.return_, 1) := by decide +kernel

theorem dX8_isConstant_0 : decode cX8_isConstant 0 = .ok (.aload_n 0, 1) := by decide +kernel
theorem dX8_isConstant_1 : decode cX8_isConstant 1 = .ok (.getfield 126, 3) := by decide +kernel
theorem dX8_isConstant_4 : decode cX8_isConstant 4 = .ok (.bipush 64, 2) := by decide +kernel
theorem dX8_isConstant_6 : decode cX8_isConstant 6 = .ok (.if_icmp .eq 30, 3) := by decide +kernel
theorem dX8_isConstant_9 : decode cX8_isConstant 9 = .ok (.aload_n 0, 1) := by decide +kernel
theorem dX8_isConstant_10 : decode cX8_isConstant 10 = .ok (.getfield 126, 3) := by decide +kernel
theorem dX8_isConstant_13 : decode cX8_isConstant 13 = .ok (.bipush 81, 2) := by decide +kernel
theorem dX8_isConstant_15 : decode cX8_isConstant 15 = .ok (.if_icmp .eq 21, 3) := by decide +kernel
theorem dX8_isConstant_18 : decode cX8_isConstant 18 = .ok (.aload_n 0, 1) := by decide +kernel
theorem dX8_isConstant_19 : decode cX8_isConstant 19 = .ok (.getfield 126, 3) := by decide +kernel
theorem dX8_isConstant_22 : decode cX8_isConstant 22 = .ok (.bipush 35, 2) := by decide +kernel
theorem dX8_isConstant_24 : decode cX8_isConstant 24 = .ok (.if_icmp .eq 12, 3) := by decide +kernel
theorem dX8_isConstant_27 : decode cX8_isConstant 27 = .ok (.aload_n 0, 1) := by decide +kernel
theorem dX8_isConstant_28 : decode cX8_isConstant 28 = .ok (.getfield 126, 3) := by decide +kernel
theorem dX8_isConstant_31 : decode cX8_isConstant 31 = .ok (.bipush 36, 2) := by decide +kernel
theorem dX8_isConstant_33 : decode cX8_isConstant 33 = .ok (.if_icmp .ne 7, 3) := by decide +kernel
theorem dX8_isConstant_36 : decode cX8_isConstant 36 = .ok (.iconst 1, 1) := by decide +kernel
theorem dX8_isConstant_37 : decode cX8_isConstant 37 = .ok (.goto 4, 3) := by decide +kernel
theorem dX8_isConstant_40 : decode cX8_isConstant 40 = .ok (.iconst 0, 1) := by decide +kernel
theorem dX8_isConstant_41 : decode cX8_isConstant 41 = .ok (.ireturn, 1) := by decide +kernel

theorem dX8_isOperand_0 : decode cX8_isOperand 0 = .ok (.aload_n 0, 1) := by decide +kernel
theorem dX8_isOperand_1 : decode cX8_isOperand 1 = .ok (.invokevirtual 223, 3) := by decide +kernel
theorem dX8_isOperand_4 : decode cX8_isOperand 4 = .ok (.ifCond .ne 30, 3) := by decide +kernel
theorem dX8_isOperand_7 : decode cX8_isOperand 7 = .ok (.aload_n 0, 1) := by decide +kernel
theorem dX8_isOperand_8 : decode cX8_isOperand 8 = .ok (.getfield 126, 3) := by decide +kernel
theorem dX8_isOperand_11 : decode cX8_isOperand 11 = .ok (.bipush 34, 2) := by decide +kernel
theorem dX8_isOperand_13 : decode cX8_isOperand 13 = .ok (.if_icmp .eq 21, 3) := by decide +kernel
theorem dX8_isOperand_16 : decode cX8_isOperand 16 = .ok (.aload_n 0, 1) := by decide +kernel
theorem dX8_isOperand_17 : decode cX8_isOperand 17 = .ok (.getfield 126, 3) := by decide +kernel
theorem dX8_isOperand_20 : decode cX8_isOperand 20 = .ok (.bipush 55, 2) := by decide +kernel
theorem dX8_isOperand_22 : decode cX8_isOperand 22 = .ok (.if_icmp .eq 12, 3) := by decide +kernel
theorem dX8_isOperand_25 : decode cX8_isOperand 25 = .ok (.aload_n 0, 1) := by decide +kernel
theorem dX8_isOperand_26 : decode cX8_isOperand 26 = .ok (.getfield 126, 3) := by decide +kernel
theorem dX8_isOperand_29 : decode cX8_isOperand 29 = .ok (.bipush 80, 2) := by decide +kernel
theorem dX8_isOperand_31 : decode cX8_isOperand 31 = .ok (.if_icmp .ne 7, 3) := by decide +kernel
theorem dX8_isOperand_34 : decode cX8_isOperand 34 = .ok (.iconst 1, 1) := by decide +kernel
theorem dX8_isOperand_35 : decode cX8_isOperand 35 = .ok (.goto 4, 3) := by decide +kernel
theorem dX8_isOperand_38 : decode cX8_isOperand 38 = .ok (.iconst 0, 1) := by decide +kernel
theorem dX8_isOperand_39 : decode cX8_isOperand 39 = .ok (.ireturn, 1) := by decide +kernel

theorem dX8_isCell_0 : decode cX8_isCell 0 = .ok (.aload_n 0, 1) := by decide +kernel
theorem dX8_isCell_1 : decode cX8_isCell 1 = .ok (.getfield 126, 3) := by decide +kernel
theorem dX8_isCell_4 : decode cX8_isCell 4 = .ok (.bipush 66, 2) := by decide +kernel
theorem dX8_isCell_6 : decode cX8_isCell 6 = .ok (.if_icmp .eq 57, 3) := by decide +kernel
theorem dX8_isCell_9 : decode cX8_isCell 9 = .ok (.aload_n 0, 1) := by decide +kernel
theorem dX8_isCell_10 : decode cX8_isCell 10 = .ok (.getfield 126, 3) := by decide +kernel
theorem dX8_isCell_13 : decode cX8_isCell 13 = .ok (.bipush 69, 2) := by decide +kernel
theorem dX8_isCell_15 : decode cX8_isCell 15 = .ok (.if_icmp .eq 48, 3) := by decide +kernel
theorem dX8_isCell_18 : decode cX8_isCell 18 = .ok (.aload_n 0, 1) := by decide +kernel
theorem dX8_isCell_19 : decode cX8_isCell 19 = .ok (.getfield 126, 3) := by decide +kernel
theorem dX8_isCell_22 : decode cX8_isCell 22 = .ok (.bipush 68, 2) := by decide +kernel
theorem dX8_isCell_24 : decode cX8_isCell 24 = .ok (.if_icmp .eq 39, 3) := by decide +kernel
theorem dX8_isCell_27 : decode cX8_isCell 27 = .ok (.aload_n 0, 1) := by decide +kernel
theorem dX8_isCell_28 : decode cX8_isCell 28 = .ok (.getfield 126, 3) := by decide +kernel
theorem dX8_isCell_31 : decode cX8_isCell 31 = .ok (.bipush 80, 2) := by decide +kernel
theorem dX8_isCell_33 : decode cX8_isCell 33 = .ok (.if_icmp .eq 30, 3) := by decide +kernel
theorem dX8_isCell_36 : decode cX8_isCell 36 = .ok (.aload_n 0, 1) := by decide +kernel
theorem dX8_isCell_37 : decode cX8_isCell 37 = .ok (.getfield 126, 3) := by decide +kernel
theorem dX8_isCell_40 : decode cX8_isCell 40 = .ok (.bipush 64, 2) := by decide +kernel
theorem dX8_isCell_42 : decode cX8_isCell 42 = .ok (.if_icmp .eq 21, 3) := by decide +kernel
theorem dX8_isCell_45 : decode cX8_isCell 45 = .ok (.aload_n 0, 1) := by decide +kernel
theorem dX8_isCell_46 : decode cX8_isCell 46 = .ok (.getfield 126, 3) := by decide +kernel
theorem dX8_isCell_49 : decode cX8_isCell 49 = .ok (.bipush 65, 2) := by decide +kernel
theorem dX8_isCell_51 : decode cX8_isCell 51 = .ok (.if_icmp .eq 12, 3) := by decide +kernel
theorem dX8_isCell_54 : decode cX8_isCell 54 = .ok (.aload_n 0, 1) := by decide +kernel
theorem dX8_isCell_55 : decode cX8_isCell 55 = .ok (.getfield 126, 3) := by decide +kernel
theorem dX8_isCell_58 : decode cX8_isCell 58 = .ok (.bipush 55, 2) := by decide +kernel
theorem dX8_isCell_60 : decode cX8_isCell 60 = .ok (.if_icmp .ne 7, 3) := by decide +kernel
theorem dX8_isCell_63 : decode cX8_isCell 63 = .ok (.iconst 1, 1) := by decide +kernel
theorem dX8_isCell_64 : decode cX8_isCell 64 = .ok (.goto 4, 3) := by decide +kernel
theorem dX8_isCell_67 : decode cX8_isCell 67 = .ok (.iconst 0, 1) := by decide +kernel
theorem dX8_isCell_68 : decode cX8_isCell 68 = .ok (.ireturn, 1) := by decide +kernel

theorem dX8_blocks_0 : decode cX8_blocks 0 = .ok (.aload_n 0, 1) := by decide +kernel
theorem dX8_blocks_1 : decode cX8_blocks 1 = .ok (.getfield 126, 3) := by decide +kernel
theorem dX8_blocks_4 : decode cX8_blocks 4 = .ok (.ifCond .ne 7, 3) := by decide +kernel
theorem dX8_blocks_7 : decode cX8_blocks 7 = .ok (.iconst 1, 1) := by decide +kernel
theorem dX8_blocks_8 : decode cX8_blocks 8 = .ok (.goto 28, 3) := by decide +kernel
theorem dX8_blocks_11 : decode cX8_blocks 11 = .ok (.aload_n 0, 1) := by decide +kernel
theorem dX8_blocks_12 : decode cX8_blocks 12 = .ok (.getfield 126, 3) := by decide +kernel
theorem dX8_blocks_15 : decode cX8_blocks 15 = .ok (.iconst 2, 1) := by decide +kernel
theorem dX8_blocks_16 : decode cX8_blocks 16 = .ok (.if_icmp .ne 7, 3) := by decide +kernel
theorem dX8_blocks_19 : decode cX8_blocks 19 = .ok (.iconst 2, 1) := by decide +kernel
theorem dX8_blocks_20 : decode cX8_blocks 20 = .ok (.goto 16, 3) := by decide +kernel
theorem dX8_blocks_23 : decode cX8_blocks 23 = .ok (.aload_n 0, 1) := by decide +kernel
theorem dX8_blocks_24 : decode cX8_blocks 24 = .ok (.getfield 126, 3) := by decide +kernel
theorem dX8_blocks_27 : decode cX8_blocks 27 = .ok (.iconst 4, 1) := by decide +kernel
theorem dX8_blocks_28 : decode cX8_blocks 28 = .ok (.if_icmp .ne 7, 3) := by decide +kernel
theorem dX8_blocks_31 : decode cX8_blocks 31 = .ok (.iconst 3, 1) := by decide +kernel
theorem dX8_blocks_32 : decode cX8_blocks 32 = .ok (.goto 4, 3) := by decide +kernel
theorem dX8_blocks_35 : decode cX8_blocks 35 = .ok (.iconst 0, 1) := by decide +kernel
theorem dX8_blocks_36 : decode cX8_blocks 36 = .ok (.istore_n 1, 1) := by decide +kernel
theorem dX8_blocks_37 : decode cX8_blocks 37 = .ok (.iload_n 1, 1) := by decide +kernel
theorem dX8_blocks_38 : decode cX8_blocks 38 = .ok (.ifCond .ne 17, 3) := by decide +kernel
theorem dX8_blocks_41 : decode cX8_blocks 41 = .ok (.aload_n 0, 1) := by decide +kernel
theorem dX8_blocks_42 : decode cX8_blocks 42 = .ok (.getfield 126, 3) := by decide +kernel
theorem dX8_blocks_45 : decode cX8_blocks 45 = .ok (.bipush 83, 2) := by decide +kernel
theorem dX8_blocks_47 : decode cX8_blocks 47 = .ok (.if_icmp .eq 7, 3) := by decide +kernel
theorem dX8_blocks_50 : decode cX8_blocks 50 = .ok (.aload_n 0, 1) := by decide +kernel
theorem dX8_blocks_51 : decode cX8_blocks 51 = .ok (.invokevirtual 211, 3) := by decide +kernel
theorem dX8_blocks_54 : decode cX8_blocks 54 = .ok (.return_, 1) := by decide +kernel
theorem dX8_blocks_55 : decode cX8_blocks 55 = .ok (.aload_n 0, 1) := by decide +kernel
theorem dX8_blocks_56 : decode cX8_blocks 56 = .ok (.iload_n 1, 1) := by decide +kernel
theorem dX8_blocks_57 : decode cX8_blocks 57 = .ok (.aload_n 0, 1) := by decide +kernel
theorem dX8_blocks_58 : decode cX8_blocks 58 = .ok (.getfield 119, 3) := by decide +kernel
theorem dX8_blocks_61 : decode cX8_blocks 61 = .ok (.iconst 0, 1) := by decide +kernel
theorem dX8_blocks_62 : decode cX8_blocks 62 = .ok (.invokevirtual 227, 3) := by decide +kernel
theorem dX8_blocks_65 : decode cX8_blocks 65 = .ok (.aload_n 0, 1) := by decide +kernel
theorem dX8_blocks_66 : decode cX8_blocks 66 = .ok (.bipush 100, 2) := by decide +kernel
theorem dX8_blocks_68 : decode cX8_blocks 68 = .ok (.invokevirtual 201, 3) := by decide +kernel
theorem dX8_blocks_71 : decode cX8_blocks 71 = .ok (.aload_n 0, 1) := by decide +kernel
theorem dX8_blocks_72 : decode cX8_blocks 72 = .ok (.bipush 101, 2) := by decide +kernel
theorem dX8_blocks_74 : decode cX8_blocks 74 = .ok (.iload_n 1, 1) := by decide +kernel
theorem dX8_blocks_75 : decode cX8_blocks 75 = .ok (.iconst 1, 1) := by decide +kernel
theorem dX8_blocks_76 : decode cX8_blocks 76 = .ok (.if_icmp .ne 7, 3) := by decide +kernel
theorem dX8_blocks_79 : decode cX8_blocks 79 = .ok (.iconst 1, 1) := by decide +kernel
theorem dX8_blocks_80 : decode cX8_blocks 80 = .ok (.goto 13, 3) := by decide +kernel
theorem dX8_blocks_83 : decode cX8_blocks 83 = .ok (.iload_n 1, 1) := by decide +kernel
theorem dX8_blocks_84 : decode cX8_blocks 84 = .ok (.iconst 2, 1) := by decide +kernel
theorem dX8_blocks_85 : decode cX8_blocks 85 = .ok (.if_icmp .ne 7, 3) := by decide +kernel
theorem dX8_blocks_88 : decode cX8_blocks 88 = .ok (.iconst 3, 1) := by decide +kernel
theorem dX8_blocks_89 : decode cX8_blocks 89 = .ok (.goto 4, 3) := by decide +kernel
theorem dX8_blocks_92 : decode cX8_blocks 92 = .ok (.iconst 5, 1) := by decide +kernel
theorem dX8_blocks_93 : decode cX8_blocks 93 = .ok (.bipush 102, 2) := by decide +kernel
theorem dX8_blocks_95 : decode cX8_blocks 95 = .ok (.bipush 103, 2) := by decide +kernel
theorem dX8_blocks_97 : decode cX8_blocks 97 = .ok (.invokevirtual 231, 3) := by decide +kernel
theorem dX8_blocks_100 : decode cX8_blocks 100 = .ok (.iload_n 1, 1) := by decide +kernel
theorem dX8_blocks_101 : decode cX8_blocks 101 = .ok (.iconst 1, 1) := by decide +kernel
theorem dX8_blocks_102 : decode cX8_blocks 102 = .ok (.if_icmp .ne 11, 3) := by decide +kernel
theorem dX8_blocks_105 : decode cX8_blocks 105 = .ok (.aload_n 0, 1) := by decide +kernel
theorem dX8_blocks_106 : decode cX8_blocks 106 = .ok (.bipush 104, 2) := by decide +kernel
theorem dX8_blocks_108 : decode cX8_blocks 108 = .ok (.bipush 61, 2) := by decide +kernel
theorem dX8_blocks_110 : decode cX8_blocks 110 = .ok (.invokevirtual 205, 3) := by decide +kernel
theorem dX8_blocks_113 : decode cX8_blocks 113 = .ok (.aload_n 0, 1) := by decide +kernel
theorem dX8_blocks_114 : decode cX8_blocks 114 = .ok (.bipush 105, 2) := by decide +kernel
theorem dX8_blocks_116 : decode cX8_blocks 116 = .ok (.invokevirtual 201, 3) := by decide +kernel
theorem dX8_blocks_119 : decode cX8_blocks 119 = .ok (.aload_n 0, 1) := by decide +kernel
theorem dX8_blocks_120 : decode cX8_blocks 120 = .ok (.invokevirtual 208, 3) := by decide +kernel
theorem dX8_blocks_123 : decode cX8_blocks 123 = .ok (.return_, 1) := by decide +kernel

theorem dX8_title_0 : decode cX8_title 0 = .ok (.aload_n 0, 1) := by decide +kernel
theorem dX8_title_1 : decode cX8_title 1 = .ok (.getfield 41, 3) := by decide +kernel
theorem dX8_title_4 : decode cX8_title 4 = .ok (.aload_n 0, 1) := by decide +kernel
theorem dX8_title_5 : decode cX8_title 5 = .ok (.getfield 192, 3) := by decide +kernel
theorem dX8_title_8 : decode cX8_title 8 = .ok (.aload_n 0, 1) := by decide +kernel
theorem dX8_title_9 : decode cX8_title 9 = .ok (.getfield 132, 3) := by decide +kernel
theorem dX8_title_12 : decode cX8_title 12 = .ok (.iastore, 1) := by decide +kernel
theorem dX8_title_13 : decode cX8_title 13 = .ok (.aload_n 0, 1) := by decide +kernel
theorem dX8_title_14 : decode cX8_title 14 = .ok (.bipush 80, 2) := by decide +kernel
theorem dX8_title_16 : decode cX8_title 16 = .ok (.invokevirtual 235, 3) := by decide +kernel
theorem dX8_title_19 : decode cX8_title 19 = .ok (.return_, 1) := by decide +kernel

theorem dX8_sections_0 : decode cX8_sections 0 = .ok (.aload_n 0, 1) := by decide +kernel
theorem dX8_sections_1 : decode cX8_sections 1 = .ok (.getfield 126, 3) := by decide +kernel
theorem dX8_sections_4 : decode cX8_sections 4 = .ok (.bipush 6, 2) := by decide +kernel
theorem dX8_sections_6 : decode cX8_sections 6 = .ok (.if_icmp .lt 44, 3) := by decide +kernel
theorem dX8_sections_9 : decode cX8_sections 9 = .ok (.aload_n 0, 1) := by decide +kernel
theorem dX8_sections_10 : decode cX8_sections 10 = .ok (.getfield 126, 3) := by decide +kernel
theorem dX8_sections_13 : decode cX8_sections 13 = .ok (.bipush 8, 2) := by decide +kernel
theorem dX8_sections_15 : decode cX8_sections 15 = .ok (.if_icmp .gt 35, 3) := by decide +kernel
theorem dX8_sections_18 : decode cX8_sections 18 = .ok (.aload_n 0, 1) := by decide +kernel
theorem dX8_sections_19 : decode cX8_sections 19 = .ok (.iconst 4, 1) := by decide +kernel
theorem dX8_sections_20 : decode cX8_sections 20 = .ok (.aload_n 0, 1) := by decide +kernel
theorem dX8_sections_21 : decode cX8_sections 21 = .ok (.getfield 119, 3) := by decide +kernel
theorem dX8_sections_24 : decode cX8_sections 24 = .ok (.aload_n 0, 1) := by decide +kernel
theorem dX8_sections_25 : decode cX8_sections 25 = .ok (.getfield 126, 3) := by decide +kernel
theorem dX8_sections_28 : decode cX8_sections 28 = .ok (.bipush 6, 2) := by decide +kernel
theorem dX8_sections_30 : decode cX8_sections 30 = .ok (.isub, 1) := by decide +kernel
theorem dX8_sections_31 : decode cX8_sections 31 = .ok (.invokevirtual 227, 3) := by decide +kernel
theorem dX8_sections_34 : decode cX8_sections 34 = .ok (.aload_n 0, 1) := by decide +kernel
theorem dX8_sections_35 : decode cX8_sections 35 = .ok (.invokevirtual 208, 3) := by decide +kernel
theorem dX8_sections_38 : decode cX8_sections 38 = .ok (.aload_n 0, 1) := by decide +kernel
theorem dX8_sections_39 : decode cX8_sections 39 = .ok (.bipush 103, 2) := by decide +kernel
theorem dX8_sections_41 : decode cX8_sections 41 = .ok (.bipush 101, 2) := by decide +kernel
theorem dX8_sections_43 : decode cX8_sections 43 = .ok (.bipush 9, 2) := by decide +kernel
theorem dX8_sections_45 : decode cX8_sections 45 = .ok (.bipush 106, 2) := by decide +kernel
theorem dX8_sections_47 : decode cX8_sections 47 = .ok (.invokevirtual 231, 3) := by decide +kernel
theorem dX8_sections_50 : decode cX8_sections 50 = .ok (.return_, 1) := by decide +kernel

theorem dX8_body_0 : decode cX8_body 0 = .ok (.aload_n 0, 1) := by decide +kernel
theorem dX8_body_1 : decode cX8_body 1 = .ok (.getfield 126, 3) := by decide +kernel
theorem dX8_body_4 : decode cX8_body 4 = .ok (.bipush 37, 2) := by decide +kernel
theorem dX8_body_6 : decode cX8_body 6 = .ok (.if_icmp .ne 36, 3) := by decide +kernel
theorem dX8_body_9 : decode cX8_body 9 = .ok (.aload_n 0, 1) := by decide +kernel
theorem dX8_body_10 : decode cX8_body 10 = .ok (.bipush 22, 2) := by decide +kernel
theorem dX8_body_12 : decode cX8_body 12 = .ok (.aload_n 0, 1) := by decide +kernel
theorem dX8_body_13 : decode cX8_body 13 = .ok (.getfield 119, 3) := by decide +kernel
theorem dX8_body_16 : decode cX8_body 16 = .ok (.iconst 0, 1) := by decide +kernel
theorem dX8_body_17 : decode cX8_body 17 = .ok (.invokevirtual 227, 3) := by decide +kernel
theorem dX8_body_20 : decode cX8_body 20 = .ok (.aload_n 0, 1) := by decide +kernel
theorem dX8_body_21 : decode cX8_body 21 = .ok (.invokevirtual 208, 3) := by decide +kernel
theorem dX8_body_24 : decode cX8_body 24 = .ok (.aload_n 0, 1) := by decide +kernel
theorem dX8_body_25 : decode cX8_body 25 = .ok (.bipush 101, 2) := by decide +kernel
theorem dX8_body_27 : decode cX8_body 27 = .ok (.bipush 38, 2) := by decide +kernel
theorem dX8_body_29 : decode cX8_body 29 = .ok (.invokevirtual 205, 3) := by decide +kernel
theorem dX8_body_32 : decode cX8_body 32 = .ok (.aload_n 0, 1) := by decide +kernel
theorem dX8_body_33 : decode cX8_body 33 = .ok (.sipush 150, 3) := by decide +kernel
theorem dX8_body_36 : decode cX8_body 36 = .ok (.invokevirtual 201, 3) := by decide +kernel
theorem dX8_body_39 : decode cX8_body 39 = .ok (.goto 22, 3) := by decide +kernel
theorem dX8_body_42 : decode cX8_body 42 = .ok (.aload_n 0, 1) := by decide +kernel
theorem dX8_body_43 : decode cX8_body 43 = .ok (.bipush 11, 2) := by decide +kernel
theorem dX8_body_45 : decode cX8_body 45 = .ok (.aload_n 0, 1) := by decide +kernel
theorem dX8_body_46 : decode cX8_body 46 = .ok (.getfield 166, 3) := by decide +kernel
theorem dX8_body_49 : decode cX8_body 49 = .ok (.iconst 0, 1) := by decide +kernel
theorem dX8_body_50 : decode cX8_body 50 = .ok (.invokevirtual 227, 3) := by decide +kernel
theorem dX8_body_53 : decode cX8_body 53 = .ok (.aload_n 0, 1) := by decide +kernel
theorem dX8_body_54 : decode cX8_body 54 = .ok (.bipush 101, 2) := by decide +kernel
theorem dX8_body_56 : decode cX8_body 56 = .ok (.bipush 115, 2) := by decide +kernel
theorem dX8_body_58 : decode cX8_body 58 = .ok (.invokevirtual 205, 3) := by decide +kernel
theorem dX8_body_61 : decode cX8_body 61 = .ok (.return_, 1) := by decide +kernel

theorem dX8_bodyBehind_0 : decode cX8_bodyBehind 0 = .ok (.aload_n 0, 1) := by decide +kernel
theorem dX8_bodyBehind_1 : decode cX8_bodyBehind 1 = .ok (.getfield 119, 3) := by decide +kernel
theorem dX8_bodyBehind_4 : decode cX8_bodyBehind 4 = .ok (.istore_n 2, 1) := by decide +kernel
theorem dX8_bodyBehind_5 : decode cX8_bodyBehind 5 = .ok (.aload_n 0, 1) := by decide +kernel
theorem dX8_bodyBehind_6 : decode cX8_bodyBehind 6 = .ok (.iload_n 1, 1) := by decide +kernel
theorem dX8_bodyBehind_7 : decode cX8_bodyBehind 7 = .ok (.invokevirtual 235, 3) := by decide +kernel
theorem dX8_bodyBehind_10 : decode cX8_bodyBehind 10 = .ok (.aload_n 0, 1) := by decide +kernel
theorem dX8_bodyBehind_11 : decode cX8_bodyBehind 11 = .ok (.getfield 100, 3) := by decide +kernel
theorem dX8_bodyBehind_14 : decode cX8_bodyBehind 14 = .ok (.ifCond .ne 19, 3) := by decide +kernel
theorem dX8_bodyBehind_17 : decode cX8_bodyBehind 17 = .ok (.aload_n 0, 1) := by decide +kernel
theorem dX8_bodyBehind_18 : decode cX8_bodyBehind 18 = .ok (.bipush 11, 2) := by decide +kernel
theorem dX8_bodyBehind_20 : decode cX8_bodyBehind 20 = .ok (.iload_n 2, 1) := by decide +kernel
theorem dX8_bodyBehind_21 : decode cX8_bodyBehind 21 = .ok (.iconst 0, 1) := by decide +kernel
theorem dX8_bodyBehind_22 : decode cX8_bodyBehind 22 = .ok (.invokevirtual 227, 3) := by decide +kernel
theorem dX8_bodyBehind_25 : decode cX8_bodyBehind 25 = .ok (.aload_n 0, 1) := by decide +kernel
theorem dX8_bodyBehind_26 : decode cX8_bodyBehind 26 = .ok (.bipush 101, 2) := by decide +kernel
theorem dX8_bodyBehind_28 : decode cX8_bodyBehind 28 = .ok (.bipush 115, 2) := by decide +kernel
theorem dX8_bodyBehind_30 : decode cX8_bodyBehind 30 = .ok (.invokevirtual 205, 3) := by decide +kernel
theorem dX8_bodyBehind_33 : decode cX8_bodyBehind 33 = .ok (.return_, 1) := by decide +kernel

theorem dX8_declarations_0 : decode cX8_declarations 0 = .ok (.aload_n 0, 1) := by decide +kernel
theorem dX8_declarations_1 : decode cX8_declarations 1 = .ok (.getfield 126, 3) := by decide +kernel
theorem dX8_declarations_4 : decode cX8_declarations 4 = .ok (.bipush 80, 2) := by decide +kernel
theorem dX8_declarations_6 : decode cX8_declarations 6 = .ok (.if_icmp .ne 37, 3) := by decide +kernel
theorem dX8_declarations_9 : decode cX8_declarations 9 = .ok (.aload_n 0, 1) := by decide +kernel
theorem dX8_declarations_10 : decode cX8_declarations 10 = .ok (.iconst 5, 1) := by decide +kernel
theorem dX8_declarations_11 : decode cX8_declarations 11 = .ok (.aload_n 0, 1) := by decide +kernel
theorem dX8_declarations_12 : decode cX8_declarations 12 = .ok (.getfield 119, 3) := by decide +kernel
theorem dX8_declarations_15 : decode cX8_declarations 15 = .ok (.iconst 0, 1) := by decide +kernel
theorem dX8_declarations_16 : decode cX8_declarations 16 = .ok (.invokevirtual 227, 3) := by decide +kernel
theorem dX8_declarations_19 : decode cX8_declarations 19 = .ok (.aload_n 0, 1) := by decide +kernel
theorem dX8_declarations_20 : decode cX8_declarations 20 = .ok (.bipush 106, 2) := by decide +kernel
theorem dX8_declarations_22 : decode cX8_declarations 22 = .ok (.bipush 101, 2) := by decide +kernel
theorem dX8_declarations_24 : decode cX8_declarations 24 = .ok (.bipush 60, 2) := by decide +kernel
theorem dX8_declarations_26 : decode cX8_declarations 26 = .ok (.bipush 110, 2) := by decide +kernel
theorem dX8_declarations_28 : decode cX8_declarations 28 = .ok (.invokevirtual 231, 3) := by decide +kernel
theorem dX8_declarations_31 : decode cX8_declarations 31 = .ok (.aload_n 0, 1) := by decide +kernel
theorem dX8_declarations_32 : decode cX8_declarations 32 = .ok (.bipush 109, 2) := by decide +kernel
theorem dX8_declarations_34 : decode cX8_declarations 34 = .ok (.bipush 61, 2) := by decide +kernel
theorem dX8_declarations_36 : decode cX8_declarations 36 = .ok (.bipush 108, 2) := by decide +kernel
theorem dX8_declarations_38 : decode cX8_declarations 38 = .ok (.bipush 107, 2) := by decide +kernel
theorem dX8_declarations_40 : decode cX8_declarations 40 = .ok (.invokevirtual 231, 3) := by decide +kernel
theorem dX8_declarations_43 : decode cX8_declarations 43 = .ok (.return_, 1) := by decide +kernel

theorem dX8_aName_0 : decode cX8_aName 0 = .ok (.aload_n 0, 1) := by decide +kernel
theorem dX8_aName_1 : decode cX8_aName 1 = .ok (.bipush 6, 2) := by decide +kernel
theorem dX8_aName_3 : decode cX8_aName 3 = .ok (.aload_n 0, 1) := by decide +kernel
theorem dX8_aName_4 : decode cX8_aName 4 = .ok (.getfield 119, 3) := by decide +kernel
theorem dX8_aName_7 : decode cX8_aName 7 = .ok (.aload_n 0, 1) := by decide +kernel
theorem dX8_aName_8 : decode cX8_aName 8 = .ok (.getfield 132, 3) := by decide +kernel
theorem dX8_aName_11 : decode cX8_aName 11 = .ok (.invokevirtual 238, 3) := by decide +kernel
theorem dX8_aName_14 : decode cX8_aName 14 = .ok (.aload_n 0, 1) := by decide +kernel
theorem dX8_aName_15 : decode cX8_aName 15 = .ok (.bipush 80, 2) := by decide +kernel
theorem dX8_aName_17 : decode cX8_aName 17 = .ok (.invokevirtual 235, 3) := by decide +kernel
theorem dX8_aName_20 : decode cX8_aName 20 = .ok (.return_, 1) := by decide +kernel

theorem dX8_simple_0 : decode cX8_simple 0 = .ok (.aload_n 0, 1) := by decide +kernel
theorem dX8_simple_1 : decode cX8_simple 1 = .ok (.getfield 126, 3) := by decide +kernel
theorem dX8_simple_4 : decode cX8_simple 4 = .ok (.bipush 11, 2) := by decide +kernel
theorem dX8_simple_6 : decode cX8_simple 6 = .ok (.if_icmp .lt 36, 3) := by decide +kernel
theorem dX8_simple_9 : decode cX8_simple 9 = .ok (.aload_n 0, 1) := by decide +kernel
theorem dX8_simple_10 : decode cX8_simple 10 = .ok (.getfield 126, 3) := by decide +kernel
theorem dX8_simple_13 : decode cX8_simple 13 = .ok (.bipush 13, 2) := by decide +kernel
theorem dX8_simple_15 : decode cX8_simple 15 = .ok (.if_icmp .gt 27, 3) := by decide +kernel
theorem dX8_simple_18 : decode cX8_simple 18 = .ok (.aload_n 0, 1) := by decide +kernel
theorem dX8_simple_19 : decode cX8_simple 19 = .ok (.bipush 8, 2) := by decide +kernel
theorem dX8_simple_21 : decode cX8_simple 21 = .ok (.aload_n 0, 1) := by decide +kernel
theorem dX8_simple_22 : decode cX8_simple 22 = .ok (.getfield 119, 3) := by decide +kernel
theorem dX8_simple_25 : decode cX8_simple 25 = .ok (.aload_n 0, 1) := by decide +kernel
theorem dX8_simple_26 : decode cX8_simple 26 = .ok (.getfield 126, 3) := by decide +kernel
theorem dX8_simple_29 : decode cX8_simple 29 = .ok (.bipush 11, 2) := by decide +kernel
theorem dX8_simple_31 : decode cX8_simple 31 = .ok (.isub, 1) := by decide +kernel
theorem dX8_simple_32 : decode cX8_simple 32 = .ok (.invokevirtual 238, 3) := by decide +kernel
theorem dX8_simple_35 : decode cX8_simple 35 = .ok (.aload_n 0, 1) := by decide +kernel
theorem dX8_simple_36 : decode cX8_simple 36 = .ok (.invokevirtual 208, 3) := by decide +kernel
theorem dX8_simple_39 : decode cX8_simple 39 = .ok (.goto 7, 3) := by decide +kernel
theorem dX8_simple_42 : decode cX8_simple 42 = .ok (.aload_n 0, 1) := by decide +kernel
theorem dX8_simple_43 : decode cX8_simple 43 = .ok (.invokevirtual 211, 3) := by decide +kernel
theorem dX8_simple_46 : decode cX8_simple 46 = .ok (.return_, 1) := by decide +kernel

theorem dX8_type_0 : decode cX8_type 0 = .ok (.aload_n 0, 1) := by decide +kernel
theorem dX8_type_1 : decode cX8_type 1 = .ok (.getfield 126, 3) := by decide +kernel
theorem dX8_type_4 : decode cX8_type 4 = .ok (.bipush 14, 2) := by decide +kernel
theorem dX8_type_6 : decode cX8_type 6 = .ok (.if_icmp .ne 45, 3) := by decide +kernel
theorem dX8_type_9 : decode cX8_type 9 = .ok (.aload_n 0, 1) := by decide +kernel
theorem dX8_type_10 : decode cX8_type 10 = .ok (.bipush 9, 2) := by decide +kernel
theorem dX8_type_12 : decode cX8_type 12 = .ok (.aload_n 0, 1) := by decide +kernel
theorem dX8_type_13 : decode cX8_type 13 = .ok (.getfield 119, 3) := by decide +kernel
theorem dX8_type_16 : decode cX8_type 16 = .ok (.iconst 0, 1) := by decide +kernel
theorem dX8_type_17 : decode cX8_type 17 = .ok (.invokevirtual 227, 3) := by decide +kernel
theorem dX8_type_20 : decode cX8_type 20 = .ok (.aload_n 0, 1) := by decide +kernel
theorem dX8_type_21 : decode cX8_type 21 = .ok (.invokevirtual 208, 3) := by decide +kernel
theorem dX8_type_24 : decode cX8_type 24 = .ok (.aload_n 0, 1) := by decide +kernel
theorem dX8_type_25 : decode cX8_type 25 = .ok (.bipush 101, 2) := by decide +kernel
theorem dX8_type_27 : decode cX8_type 27 = .ok (.bipush 104, 2) := by decide +kernel
theorem dX8_type_29 : decode cX8_type 29 = .ok (.bipush 15, 2) := by decide +kernel
theorem dX8_type_31 : decode cX8_type 31 = .ok (.bipush 58, 2) := by decide +kernel
theorem dX8_type_33 : decode cX8_type 33 = .ok (.invokevirtual 231, 3) := by decide +kernel
theorem dX8_type_36 : decode cX8_type 36 = .ok (.aload_n 0, 1) := by decide +kernel
theorem dX8_type_37 : decode cX8_type 37 = .ok (.bipush 113, 2) := by decide +kernel
theorem dX8_type_39 : decode cX8_type 39 = .ok (.bipush 51, 2) := by decide +kernel
theorem dX8_type_41 : decode cX8_type 41 = .ok (.bipush 113, 2) := by decide +kernel
theorem dX8_type_43 : decode cX8_type 43 = .ok (.bipush 57, 2) := by decide +kernel
theorem dX8_type_45 : decode cX8_type 45 = .ok (.invokevirtual 231, 3) := by decide +kernel
theorem dX8_type_48 : decode cX8_type 48 = .ok (.goto 37, 3) := by decide +kernel
theorem dX8_type_51 : decode cX8_type 51 = .ok (.aload_n 0, 1) := by decide +kernel
theorem dX8_type_52 : decode cX8_type 52 = .ok (.getfield 126, 3) := by decide +kernel
theorem dX8_type_55 : decode cX8_type 55 = .ok (.bipush 80, 2) := by decide +kernel
theorem dX8_type_57 : decode cX8_type 57 = .ok (.if_icmp .ne 24, 3) := by decide +kernel
theorem dX8_type_60 : decode cX8_type 60 = .ok (.aload_n 0, 1) := by decide +kernel
theorem dX8_type_61 : decode cX8_type 61 = .ok (.bipush 10, 2) := by decide +kernel
theorem dX8_type_63 : decode cX8_type 63 = .ok (.aload_n 0, 1) := by decide +kernel
theorem dX8_type_64 : decode cX8_type 64 = .ok (.getfield 119, 3) := by decide +kernel
theorem dX8_type_67 : decode cX8_type 67 = .ok (.aload_n 0, 1) := by decide +kernel
theorem dX8_type_68 : decode cX8_type 68 = .ok (.getfield 132, 3) := by decide +kernel
theorem dX8_type_71 : decode cX8_type 71 = .ok (.invokevirtual 238, 3) := by decide +kernel
theorem dX8_type_74 : decode cX8_type 74 = .ok (.aload_n 0, 1) := by decide +kernel
theorem dX8_type_75 : decode cX8_type 75 = .ok (.invokevirtual 208, 3) := by decide +kernel
theorem dX8_type_78 : decode cX8_type 78 = .ok (.goto 7, 3) := by decide +kernel
theorem dX8_type_81 : decode cX8_type 81 = .ok (.aload_n 0, 1) := by decide +kernel
theorem dX8_type_82 : decode cX8_type 82 = .ok (.invokevirtual 241, 3) := by decide +kernel
theorem dX8_type_85 : decode cX8_type 85 = .ok (.return_, 1) := by decide +kernel

theorem dX8_constant_0 : decode cX8_constant 0 = .ok (.aload_n 0, 1) := by decide +kernel
theorem dX8_constant_1 : decode cX8_constant 1 = .ok (.getfield 126, 3) := by decide +kernel
theorem dX8_constant_4 : decode cX8_constant 4 = .ok (.bipush 64, 2) := by decide +kernel
theorem dX8_constant_6 : decode cX8_constant 6 = .ok (.if_icmp .ne 24, 3) := by decide +kernel
theorem dX8_constant_9 : decode cX8_constant 9 = .ok (.aload_n 0, 1) := by decide +kernel
theorem dX8_constant_10 : decode cX8_constant 10 = .ok (.aload_n 0, 1) := by decide +kernel
theorem dX8_constant_11 : decode cX8_constant 11 = .ok (.getfield 119, 3) := by decide +kernel
theorem dX8_constant_14 : decode cX8_constant 14 = .ok (.putfield 244, 3) := by decide +kernel
theorem dX8_constant_17 : decode cX8_constant 17 = .ok (.aload_n 0, 1) := by decide +kernel
theorem dX8_constant_18 : decode cX8_constant 18 = .ok (.invokevirtual 208, 3) := by decide +kernel
theorem dX8_constant_21 : decode cX8_constant 21 = .ok (.aload_n 0, 1) := by decide +kernel
theorem dX8_constant_22 : decode cX8_constant 22 = .ok (.bipush 114, 2) := by decide +kernel
theorem dX8_constant_24 : decode cX8_constant 24 = .ok (.invokevirtual 201, 3) := by decide +kernel
theorem dX8_constant_27 : decode cX8_constant 27 = .ok (.goto 86, 3) := by decide +kernel
theorem dX8_constant_30 : decode cX8_constant 30 = .ok (.aload_n 0, 1) := by decide +kernel
theorem dX8_constant_31 : decode cX8_constant 31 = .ok (.getfield 126, 3) := by decide +kernel
theorem dX8_constant_34 : decode cX8_constant 34 = .ok (.bipush 81, 2) := by decide +kernel
theorem dX8_constant_36 : decode cX8_constant 36 = .ok (.if_icmp .ne 24, 3) := by decide +kernel
theorem dX8_constant_39 : decode cX8_constant 39 = .ok (.aload_n 0, 1) := by decide +kernel
theorem dX8_constant_40 : decode cX8_constant 40 = .ok (.bipush 30, 2) := by decide +kernel
theorem dX8_constant_42 : decode cX8_constant 42 = .ok (.aload_n 0, 1) := by decide +kernel
theorem dX8_constant_43 : decode cX8_constant 43 = .ok (.getfield 119, 3) := by decide +kernel
theorem dX8_constant_46 : decode cX8_constant 46 = .ok (.aload_n 0, 1) := by decide +kernel
theorem dX8_constant_47 : decode cX8_constant 47 = .ok (.getfield 132, 3) := by decide +kernel
theorem dX8_constant_50 : decode cX8_constant 50 = .ok (.invokevirtual 238, 3) := by decide +kernel
theorem dX8_constant_53 : decode cX8_constant 53 = .ok (.aload_n 0, 1) := by decide +kernel
theorem dX8_constant_54 : decode cX8_constant 54 = .ok (.invokevirtual 208, 3) := by decide +kernel
theorem dX8_constant_57 : decode cX8_constant 57 = .ok (.goto 56, 3) := by decide +kernel
theorem dX8_constant_60 : decode cX8_constant 60 = .ok (.aload_n 0, 1) := by decide +kernel
theorem dX8_constant_61 : decode cX8_constant 61 = .ok (.getfield 126, 3) := by decide +kernel
theorem dX8_constant_64 : decode cX8_constant 64 = .ok (.bipush 35, 2) := by decide +kernel
theorem dX8_constant_66 : decode cX8_constant 66 = .ok (.if_icmp .eq 12, 3) := by decide +kernel
theorem dX8_constant_69 : decode cX8_constant 69 = .ok (.aload_n 0, 1) := by decide +kernel
theorem dX8_constant_70 : decode cX8_constant 70 = .ok (.getfield 126, 3) := by decide +kernel
theorem dX8_constant_73 : decode cX8_constant 73 = .ok (.bipush 36, 2) := by decide +kernel
theorem dX8_constant_75 : decode cX8_constant 75 = .ok (.if_icmp .ne 34, 3) := by decide +kernel
theorem dX8_constant_78 : decode cX8_constant 78 = .ok (.aload_n 0, 1) := by decide +kernel
theorem dX8_constant_79 : decode cX8_constant 79 = .ok (.bipush 31, 2) := by decide +kernel
theorem dX8_constant_81 : decode cX8_constant 81 = .ok (.aload_n 0, 1) := by decide +kernel
theorem dX8_constant_82 : decode cX8_constant 82 = .ok (.getfield 119, 3) := by decide +kernel
theorem dX8_constant_85 : decode cX8_constant 85 = .ok (.aload_n 0, 1) := by decide +kernel
theorem dX8_constant_86 : decode cX8_constant 86 = .ok (.getfield 126, 3) := by decide +kernel
theorem dX8_constant_89 : decode cX8_constant 89 = .ok (.bipush 35, 2) := by decide +kernel
theorem dX8_constant_91 : decode cX8_constant 91 = .ok (.if_icmp .ne 7, 3) := by decide +kernel
theorem dX8_constant_94 : decode cX8_constant 94 = .ok (.iconst 1, 1) := by decide +kernel
theorem dX8_constant_95 : decode cX8_constant 95 = .ok (.goto 4, 3) := by decide +kernel
theorem dX8_constant_98 : decode cX8_constant 98 = .ok (.iconst 0, 1) := by decide +kernel
theorem dX8_constant_99 : decode cX8_constant 99 = .ok (.invokevirtual 238, 3) := by decide +kernel
theorem dX8_constant_102 : decode cX8_constant 102 = .ok (.aload_n 0, 1) := by decide +kernel
theorem dX8_constant_103 : decode cX8_constant 103 = .ok (.invokevirtual 208, 3) := by decide +kernel
theorem dX8_constant_106 : decode cX8_constant 106 = .ok (.goto 7, 3) := by decide +kernel
theorem dX8_constant_109 : decode cX8_constant 109 = .ok (.aload_n 0, 1) := by decide +kernel
theorem dX8_constant_110 : decode cX8_constant 110 = .ok (.invokevirtual 211, 3) := by decide +kernel
theorem dX8_constant_113 : decode cX8_constant 113 = .ok (.return_, 1) := by decide +kernel

theorem dX8_lessNumber_0 : decode cX8_lessNumber 0 = .ok (.aload_n 0, 1) := by decide +kernel
theorem dX8_lessNumber_1 : decode cX8_lessNumber 1 = .ok (.bipush 30, 2) := by decide +kernel
theorem dX8_lessNumber_3 : decode cX8_lessNumber 3 = .ok (.aload_n 0, 1) := by decide +kernel
theorem dX8_lessNumber_4 : decode cX8_lessNumber 4 = .ok (.getfield 244, 3) := by decide +kernel
theorem dX8_lessNumber_7 : decode cX8_lessNumber 7 = .ok (.aload_n 0, 1) := by decide +kernel
theorem dX8_lessNumber_8 : decode cX8_lessNumber 8 = .ok (.getfield 132, 3) := by decide +kernel
theorem dX8_lessNumber_11 : decode cX8_lessNumber 11 = .ok (.ineg, 1) := by decide +kernel
theorem dX8_lessNumber_12 : decode cX8_lessNumber 12 = .ok (.invokevirtual 238, 3) := by decide +kernel
theorem dX8_lessNumber_15 : decode cX8_lessNumber 15 = .ok (.aload_n 0, 1) := by decide +kernel
theorem dX8_lessNumber_16 : decode cX8_lessNumber 16 = .ok (.bipush 81, 2) := by decide +kernel
theorem dX8_lessNumber_18 : decode cX8_lessNumber 18 = .ok (.invokevirtual 235, 3) := by decide +kernel
theorem dX8_lessNumber_21 : decode cX8_lessNumber 21 = .ok (.return_, 1) := by decide +kernel

theorem dX8_perhaps_0 : decode cX8_perhaps 0 = .ok (.aload_n 0, 1) := by decide +kernel
theorem dX8_perhaps_1 : decode cX8_perhaps 1 = .ok (.getfield 126, 3) := by decide +kernel
theorem dX8_perhaps_4 : decode cX8_perhaps 4 = .ok (.iload_n 1, 1) := by decide +kernel
theorem dX8_perhaps_5 : decode cX8_perhaps 5 = .ok (.if_icmp .ne 22, 3) := by decide +kernel
theorem dX8_perhaps_8 : decode cX8_perhaps 8 = .ok (.aload_n 0, 1) := by decide +kernel
theorem dX8_perhaps_9 : decode cX8_perhaps 9 = .ok (.invokevirtual 208, 3) := by decide +kernel
theorem dX8_perhaps_12 : decode cX8_perhaps 12 = .ok (.iload_n 2, 1) := by decide +kernel
theorem dX8_perhaps_13 : decode cX8_perhaps 13 = .ok (.iconst (-1), 1) := by decide +kernel
theorem dX8_perhaps_14 : decode cX8_perhaps 14 = .ok (.if_icmp .eq 8, 3) := by decide +kernel
theorem dX8_perhaps_17 : decode cX8_perhaps 17 = .ok (.aload_n 0, 1) := by decide +kernel
theorem dX8_perhaps_18 : decode cX8_perhaps 18 = .ok (.iload_n 2, 1) := by decide +kernel
theorem dX8_perhaps_19 : decode cX8_perhaps 19 = .ok (.invokevirtual 201, 3) := by decide +kernel
theorem dX8_perhaps_22 : decode cX8_perhaps 22 = .ok (.aload_n 0, 1) := by decide +kernel
theorem dX8_perhaps_23 : decode cX8_perhaps 23 = .ok (.iload_n 3, 1) := by decide +kernel
theorem dX8_perhaps_24 : decode cX8_perhaps 24 = .ok (.invokevirtual 201, 3) := by decide +kernel
theorem dX8_perhaps_27 : decode cX8_perhaps 27 = .ok (.return_, 1) := by decide +kernel

theorem dX8_compound_0 : decode cX8_compound 0 = .ok (.aload_n 0, 1) := by decide +kernel
theorem dX8_compound_1 : decode cX8_compound 1 = .ok (.bipush 115, 2) := by decide +kernel
theorem dX8_compound_3 : decode cX8_compound 3 = .ok (.bipush 118, 2) := by decide +kernel
theorem dX8_compound_5 : decode cX8_compound 5 = .ok (.bipush 60, 2) := by decide +kernel
theorem dX8_compound_7 : decode cX8_compound 7 = .ok (.aload_n 0, 1) := by decide +kernel
theorem dX8_compound_8 : decode cX8_compound 8 = .ok (.getfield 126, 3) := by decide +kernel
theorem dX8_compound_11 : decode cX8_compound 11 = .ok (.bipush 16, 2) := by decide +kernel
theorem dX8_compound_13 : decode cX8_compound 13 = .ok (.if_icmp .ne 8, 3) := by decide +kernel
theorem dX8_compound_16 : decode cX8_compound 16 = .ok (.bipush 20, 2) := by decide +kernel
theorem dX8_compound_18 : decode cX8_compound 18 = .ok (.goto 19, 3) := by decide +kernel
theorem dX8_compound_21 : decode cX8_compound 21 = .ok (.aload_n 0, 1) := by decide +kernel
theorem dX8_compound_22 : decode cX8_compound 22 = .ok (.getfield 126, 3) := by decide +kernel
theorem dX8_compound_25 : decode cX8_compound 25 = .ok (.bipush 21, 2) := by decide +kernel
theorem dX8_compound_27 : decode cX8_compound 27 = .ok (.if_icmp .ne 8, 3) := by decide +kernel
theorem dX8_compound_30 : decode cX8_compound 30 = .ok (.bipush 22, 2) := by decide +kernel
theorem dX8_compound_32 : decode cX8_compound 32 = .ok (.goto 5, 3) := by decide +kernel
theorem dX8_compound_35 : decode cX8_compound 35 = .ok (.bipush 27, 2) := by decide +kernel
theorem dX8_compound_37 : decode cX8_compound 37 = .ok (.invokevirtual 231, 3) := by decide +kernel
theorem dX8_compound_40 : decode cX8_compound 40 = .ok (.aload_n 0, 1) := by decide +kernel
theorem dX8_compound_41 : decode cX8_compound 41 = .ok (.getfield 126, 3) := by decide +kernel
theorem dX8_compound_44 : decode cX8_compound 44 = .ok (.bipush 16, 2) := by decide +kernel
theorem dX8_compound_46 : decode cX8_compound 46 = .ok (.if_icmp .ne 29, 3) := by decide +kernel
theorem dX8_compound_49 : decode cX8_compound 49 = .ok (.aload_n 0, 1) := by decide +kernel
theorem dX8_compound_50 : decode cX8_compound 50 = .ok (.bipush 15, 2) := by decide +kernel
theorem dX8_compound_52 : decode cX8_compound 52 = .ok (.aload_n 0, 1) := by decide +kernel
theorem dX8_compound_53 : decode cX8_compound 53 = .ok (.getfield 119, 3) := by decide +kernel
theorem dX8_compound_56 : decode cX8_compound 56 = .ok (.iconst 0, 1) := by decide +kernel
theorem dX8_compound_57 : decode cX8_compound 57 = .ok (.invokevirtual 227, 3) := by decide +kernel
theorem dX8_compound_60 : decode cX8_compound 60 = .ok (.aload_n 0, 1) := by decide +kernel
theorem dX8_compound_61 : decode cX8_compound 61 = .ok (.bipush 117, 2) := by decide +kernel
theorem dX8_compound_63 : decode cX8_compound 63 = .ok (.bipush 119, 2) := by decide +kernel
theorem dX8_compound_65 : decode cX8_compound 65 = .ok (.invokevirtual 205, 3) := by decide +kernel
theorem dX8_compound_68 : decode cX8_compound 68 = .ok (.aload_n 0, 1) := by decide +kernel
theorem dX8_compound_69 : decode cX8_compound 69 = .ok (.invokevirtual 256, 3) := by decide +kernel
theorem dX8_compound_72 : decode cX8_compound 72 = .ok (.goto 81, 3) := by decide +kernel
theorem dX8_compound_75 : decode cX8_compound 75 = .ok (.aload_n 0, 1) := by decide +kernel
theorem dX8_compound_76 : decode cX8_compound 76 = .ok (.getfield 126, 3) := by decide +kernel
theorem dX8_compound_79 : decode cX8_compound 79 = .ok (.bipush 21, 2) := by decide +kernel
theorem dX8_compound_81 : decode cX8_compound 81 = .ok (.if_icmp .ne 35, 3) := by decide +kernel
theorem dX8_compound_84 : decode cX8_compound 84 = .ok (.aload_n 0, 1) := by decide +kernel
theorem dX8_compound_85 : decode cX8_compound 85 = .ok (.bipush 16, 2) := by decide +kernel
theorem dX8_compound_87 : decode cX8_compound 87 = .ok (.aload_n 0, 1) := by decide +kernel
theorem dX8_compound_88 : decode cX8_compound 88 = .ok (.getfield 119, 3) := by decide +kernel
theorem dX8_compound_91 : decode cX8_compound 91 = .ok (.iconst 0, 1) := by decide +kernel
theorem dX8_compound_92 : decode cX8_compound 92 = .ok (.invokevirtual 227, 3) := by decide +kernel
theorem dX8_compound_95 : decode cX8_compound 95 = .ok (.aload_n 0, 1) := by decide +kernel
theorem dX8_compound_96 : decode cX8_compound 96 = .ok (.bipush 120, 2) := by decide +kernel
theorem dX8_compound_98 : decode cX8_compound 98 = .ok (.bipush 121, 2) := by decide +kernel
theorem dX8_compound_100 : decode cX8_compound 100 = .ok (.invokevirtual 205, 3) := by decide +kernel
theorem dX8_compound_103 : decode cX8_compound 103 = .ok (.aload_n 0, 1) := by decide +kernel
theorem dX8_compound_104 : decode cX8_compound 104 = .ok (.bipush 15, 2) := by decide +kernel
theorem dX8_compound_106 : decode cX8_compound 106 = .ok (.invokevirtual 201, 3) := by decide +kernel
theorem dX8_compound_109 : decode cX8_compound 109 = .ok (.aload_n 0, 1) := by decide +kernel
theorem dX8_compound_110 : decode cX8_compound 110 = .ok (.invokevirtual 256, 3) := by decide +kernel
theorem dX8_compound_113 : decode cX8_compound 113 = .ok (.goto 40, 3) := by decide +kernel
theorem dX8_compound_116 : decode cX8_compound 116 = .ok (.aload_n 0, 1) := by decide +kernel
theorem dX8_compound_117 : decode cX8_compound 117 = .ok (.bipush 19, 2) := by decide +kernel
theorem dX8_compound_119 : decode cX8_compound 119 = .ok (.aload_n 0, 1) := by decide +kernel
theorem dX8_compound_120 : decode cX8_compound 120 = .ok (.getfield 119, 3) := by decide +kernel
theorem dX8_compound_123 : decode cX8_compound 123 = .ok (.iconst 0, 1) := by decide +kernel
theorem dX8_compound_124 : decode cX8_compound 124 = .ok (.invokevirtual 227, 3) := by decide +kernel
theorem dX8_compound_127 : decode cX8_compound 127 = .ok (.aload_n 0, 1) := by decide +kernel
theorem dX8_compound_128 : decode cX8_compound 128 = .ok (.bipush 126, 2) := by decide +kernel
theorem dX8_compound_130 : decode cX8_compound 130 = .ok (.bipush 127, 2) := by decide +kernel
theorem dX8_compound_132 : decode cX8_compound 132 = .ok (.bipush 113, 2) := by decide +kernel
theorem dX8_compound_134 : decode cX8_compound 134 = .ok (.bipush 24, 2) := by decide +kernel
theorem dX8_compound_136 : decode cX8_compound 136 = .ok (.invokevirtual 231, 3) := by decide +kernel
theorem dX8_compound_139 : decode cX8_compound 139 = .ok (.aload_n 0, 1) := by decide +kernel
theorem dX8_compound_140 : decode cX8_compound 140 = .ok (.bipush 113, 2) := by decide +kernel
theorem dX8_compound_142 : decode cX8_compound 142 = .ok (.bipush 50, 2) := by decide +kernel
theorem dX8_compound_144 : decode cX8_compound 144 = .ok (.invokevirtual 205, 3) := by decide +kernel
theorem dX8_compound_147 : decode cX8_compound 147 = .ok (.aload_n 0, 1) := by decide +kernel
theorem dX8_compound_148 : decode cX8_compound 148 = .ok (.bipush 105, 2) := by decide +kernel
theorem dX8_compound_150 : decode cX8_compound 150 = .ok (.invokevirtual 201, 3) := by decide +kernel
theorem dX8_compound_153 : decode cX8_compound 153 = .ok (.aload_n 0, 1) := by decide +kernel
theorem dX8_compound_154 : decode cX8_compound 154 = .ok (.invokevirtual 208, 3) := by decide +kernel
theorem dX8_compound_157 : decode cX8_compound 157 = .ok (.return_, 1) := by decide +kernel
