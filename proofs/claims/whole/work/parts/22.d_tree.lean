theorem dX3_add_0 : decode cX3_add 0 = .ok (.aload_n 0, 1) := by decide +kernel
theorem dX3_add_1 : decode cX3_add 1 = .ok (.getfield 33, 3) := by decide +kernel
theorem dX3_add_4 : decode cX3_add 4 = .ok (.istore 5, 2) := by decide +kernel
theorem dX3_add_6 : decode cX3_add 6 = .ok (.iload 5, 2) := by decide +kernel
theorem dX3_add_8 : decode cX3_add 8 = .ok (.ifCond .lt 11, 3) := by decide +kernel
theorem dX3_add_11 : decode cX3_add 11 = .ok (.iload 5, 2) := by decide +kernel
theorem dX3_add_13 : decode cX3_add 13 = .ok (.sipush 16384, 3) := by decide +kernel
theorem dX3_add_16 : decode cX3_add 16 = .ok (.if_icmp .lt 5, 3) := by decide +kernel
theorem dX3_add_19 : decode cX3_add 19 = .ok (.iconst (-1), 1) := by decide +kernel
theorem dX3_add_20 : decode cX3_add 20 = .ok (.ireturn, 1) := by decide +kernel
theorem dX3_add_21 : decode cX3_add 21 = .ok (.iload_n 1, 1) := by decide +kernel
theorem dX3_add_22 : decode cX3_add 22 = .ok (.ifCond .lt 19, 3) := by decide +kernel
theorem dX3_add_25 : decode cX3_add 25 = .ok (.iload_n 1, 1) := by decide +kernel
theorem dX3_add_26 : decode cX3_add 26 = .ok (.iload 5, 2) := by decide +kernel
theorem dX3_add_28 : decode cX3_add 28 = .ok (.if_icmp .ge 13, 3) := by decide +kernel
theorem dX3_add_31 : decode cX3_add 31 = .ok (.aload_n 0, 1) := by decide +kernel
theorem dX3_add_32 : decode cX3_add 32 = .ok (.getfield 21, 3) := by decide +kernel
theorem dX3_add_35 : decode cX3_add 35 = .ok (.iload_n 1, 1) := by decide +kernel
theorem dX3_add_36 : decode cX3_add 36 = .ok (.dup2, 1) := by decide +kernel
theorem dX3_add_37 : decode cX3_add 37 = .ok (.iaload, 1) := by decide +kernel
theorem dX3_add_38 : decode cX3_add 38 = .ok (.iconst 1, 1) := by decide +kernel
theorem dX3_add_39 : decode cX3_add 39 = .ok (.iadd, 1) := by decide +kernel
theorem dX3_add_40 : decode cX3_add 40 = .ok (.iastore, 1) := by decide +kernel
theorem dX3_add_41 : decode cX3_add 41 = .ok (.aload_n 0, 1) := by decide +kernel
theorem dX3_add_42 : decode cX3_add 42 = .ok (.getfield 9, 3) := by decide +kernel
theorem dX3_add_45 : decode cX3_add 45 = .ok (.iload 5, 2) := by decide +kernel
theorem dX3_add_47 : decode cX3_add 47 = .ok (.iload_n 2, 1) := by decide +kernel
theorem dX3_add_48 : decode cX3_add 48 = .ok (.iastore, 1) := by decide +kernel
theorem dX3_add_49 : decode cX3_add 49 = .ok (.aload_n 0, 1) := by decide +kernel
theorem dX3_add_50 : decode cX3_add 50 = .ok (.getfield 15, 3) := by decide +kernel
theorem dX3_add_53 : decode cX3_add 53 = .ok (.iload 5, 2) := by decide +kernel
theorem dX3_add_55 : decode cX3_add 55 = .ok (.iload_n 3, 1) := by decide +kernel
theorem dX3_add_56 : decode cX3_add 56 = .ok (.iastore, 1) := by decide +kernel
theorem dX3_add_57 : decode cX3_add 57 = .ok (.aload_n 0, 1) := by decide +kernel
theorem dX3_add_58 : decode cX3_add 58 = .ok (.getfield 18, 3) := by decide +kernel
theorem dX3_add_61 : decode cX3_add 61 = .ok (.iload 5, 2) := by decide +kernel
theorem dX3_add_63 : decode cX3_add 63 = .ok (.iload 4, 2) := by decide +kernel
theorem dX3_add_65 : decode cX3_add 65 = .ok (.iastore, 1) := by decide +kernel
theorem dX3_add_66 : decode cX3_add 66 = .ok (.aload_n 0, 1) := by decide +kernel
theorem dX3_add_67 : decode cX3_add 67 = .ok (.getfield 21, 3) := by decide +kernel
theorem dX3_add_70 : decode cX3_add 70 = .ok (.iload 5, 2) := by decide +kernel
theorem dX3_add_72 : decode cX3_add 72 = .ok (.iconst 0, 1) := by decide +kernel
theorem dX3_add_73 : decode cX3_add 73 = .ok (.iastore, 1) := by decide +kernel
theorem dX3_add_74 : decode cX3_add 74 = .ok (.aload_n 0, 1) := by decide +kernel
theorem dX3_add_75 : decode cX3_add 75 = .ok (.dup, 1) := by decide +kernel
theorem dX3_add_76 : decode cX3_add 76 = .ok (.getfield 33, 3) := by decide +kernel
theorem dX3_add_79 : decode cX3_add 79 = .ok (.iconst 1, 1) := by decide +kernel
theorem dX3_add_80 : decode cX3_add 80 = .ok (.iadd, 1) := by decide +kernel
theorem dX3_add_81 : decode cX3_add 81 = .ok (.putfield 33, 3) := by decide +kernel
theorem dX3_add_84 : decode cX3_add 84 = .ok (.iload 5, 2) := by decide +kernel
theorem dX3_add_86 : decode cX3_add 86 = .ok (.ireturn, 1) := by decide +kernel

theorem dX3_has_0 : decode cX3_has 0 = .ok (.iload_n 1, 1) := by decide +kernel
theorem dX3_has_1 : decode cX3_has 1 = .ok (.ifCond .lt 22, 3) := by decide +kernel
theorem dX3_has_4 : decode cX3_has 4 = .ok (.iload_n 1, 1) := by decide +kernel
theorem dX3_has_5 : decode cX3_has 5 = .ok (.aload_n 0, 1) := by decide +kernel
theorem dX3_has_6 : decode cX3_has 6 = .ok (.getfield 33, 3) := by decide +kernel
theorem dX3_has_9 : decode cX3_has 9 = .ok (.if_icmp .ge 14, 3) := by decide +kernel
theorem dX3_has_12 : decode cX3_has 12 = .ok (.iload_n 1, 1) := by decide +kernel
theorem dX3_has_13 : decode cX3_has 13 = .ok (.sipush 16384, 3) := by decide +kernel
theorem dX3_has_16 : decode cX3_has 16 = .ok (.if_icmp .ge 7, 3) := by decide +kernel
theorem dX3_has_19 : decode cX3_has 19 = .ok (.iconst 1, 1) := by decide +kernel
theorem dX3_has_20 : decode cX3_has 20 = .ok (.goto 4, 3) := by decide +kernel
theorem dX3_has_23 : decode cX3_has 23 = .ok (.iconst 0, 1) := by decide +kernel
theorem dX3_has_24 : decode cX3_has 24 = .ok (.ireturn, 1) := by decide +kernel

theorem dX3_wrap_0 : decode cX3_wrap 0 = .ok (.aload_n 0, 1) := by decide +kernel
theorem dX3_wrap_1 : decode cX3_wrap 1 = .ok (.iload_n 1, 1) := by decide +kernel
theorem dX3_wrap_2 : decode cX3_wrap 2 = .ok (.invokevirtual 37, 3) := by decide +kernel
theorem dX3_wrap_5 : decode cX3_wrap 5 = .ok (.ifCond .eq 13, 3) := by decide +kernel
theorem dX3_wrap_8 : decode cX3_wrap 8 = .ok (.aload_n 0, 1) := by decide +kernel
theorem dX3_wrap_9 : decode cX3_wrap 9 = .ok (.getfield 33, 3) := by decide +kernel
theorem dX3_wrap_12 : decode cX3_wrap 12 = .ok (.sipush 16384, 3) := by decide +kernel
theorem dX3_wrap_15 : decode cX3_wrap 15 = .ok (.if_icmp .lt 4, 3) := by decide +kernel
theorem dX3_wrap_18 : decode cX3_wrap 18 = .ok (.return_, 1) := by decide +kernel
theorem dX3_wrap_19 : decode cX3_wrap 19 = .ok (.aload_n 0, 1) := by decide +kernel
theorem dX3_wrap_20 : decode cX3_wrap 20 = .ok (.getfield 33, 3) := by decide +kernel
theorem dX3_wrap_23 : decode cX3_wrap 23 = .ok (.iload_n 1, 1) := by decide +kernel
theorem dX3_wrap_24 : decode cX3_wrap 24 = .ok (.isub, 1) := by decide +kernel
theorem dX3_wrap_25 : decode cX3_wrap 25 = .ok (.istore 5, 2) := by decide +kernel
theorem dX3_wrap_27 : decode cX3_wrap 27 = .ok (.aload_n 0, 1) := by decide +kernel
theorem dX3_wrap_28 : decode cX3_wrap 28 = .ok (.getfield 9, 3) := by decide +kernel
theorem dX3_wrap_31 : decode cX3_wrap 31 = .ok (.iload_n 1, 1) := by decide +kernel
theorem dX3_wrap_32 : decode cX3_wrap 32 = .ok (.aload_n 0, 1) := by decide +kernel
theorem dX3_wrap_33 : decode cX3_wrap 33 = .ok (.getfield 9, 3) := by decide +kernel
theorem dX3_wrap_36 : decode cX3_wrap 36 = .ok (.iload_n 1, 1) := by decide +kernel
theorem dX3_wrap_37 : decode cX3_wrap 37 = .ok (.iconst 1, 1) := by decide +kernel
theorem dX3_wrap_38 : decode cX3_wrap 38 = .ok (.iadd, 1) := by decide +kernel
theorem dX3_wrap_39 : decode cX3_wrap 39 = .ok (.iload 5, 2) := by decide +kernel
theorem dX3_wrap_41 : decode cX3_wrap 41 = .ok (.invokestatic 41, 3) := by decide +kernel
theorem dX3_wrap_44 : decode cX3_wrap 44 = .ok (.aload_n 0, 1) := by decide +kernel
theorem dX3_wrap_45 : decode cX3_wrap 45 = .ok (.getfield 15, 3) := by decide +kernel
theorem dX3_wrap_48 : decode cX3_wrap 48 = .ok (.iload_n 1, 1) := by decide +kernel
theorem dX3_wrap_49 : decode cX3_wrap 49 = .ok (.aload_n 0, 1) := by decide +kernel
theorem dX3_wrap_50 : decode cX3_wrap 50 = .ok (.getfield 15, 3) := by decide +kernel
theorem dX3_wrap_53 : decode cX3_wrap 53 = .ok (.iload_n 1, 1) := by decide +kernel
theorem dX3_wrap_54 : decode cX3_wrap 54 = .ok (.iconst 1, 1) := by decide +kernel
theorem dX3_wrap_55 : decode cX3_wrap 55 = .ok (.iadd, 1) := by decide +kernel
theorem dX3_wrap_56 : decode cX3_wrap 56 = .ok (.iload 5, 2) := by decide +kernel
theorem dX3_wrap_58 : decode cX3_wrap 58 = .ok (.invokestatic 41, 3) := by decide +kernel
theorem dX3_wrap_61 : decode cX3_wrap 61 = .ok (.aload_n 0, 1) := by decide +kernel
theorem dX3_wrap_62 : decode cX3_wrap 62 = .ok (.getfield 18, 3) := by decide +kernel
theorem dX3_wrap_65 : decode cX3_wrap 65 = .ok (.iload_n 1, 1) := by decide +kernel
theorem dX3_wrap_66 : decode cX3_wrap 66 = .ok (.aload_n 0, 1) := by decide +kernel
theorem dX3_wrap_67 : decode cX3_wrap 67 = .ok (.getfield 18, 3) := by decide +kernel
theorem dX3_wrap_70 : decode cX3_wrap 70 = .ok (.iload_n 1, 1) := by decide +kernel
theorem dX3_wrap_71 : decode cX3_wrap 71 = .ok (.iconst 1, 1) := by decide +kernel
theorem dX3_wrap_72 : decode cX3_wrap 72 = .ok (.iadd, 1) := by decide +kernel
theorem dX3_wrap_73 : decode cX3_wrap 73 = .ok (.iload 5, 2) := by decide +kernel
theorem dX3_wrap_75 : decode cX3_wrap 75 = .ok (.invokestatic 41, 3) := by decide +kernel
theorem dX3_wrap_78 : decode cX3_wrap 78 = .ok (.aload_n 0, 1) := by decide +kernel
theorem dX3_wrap_79 : decode cX3_wrap 79 = .ok (.getfield 21, 3) := by decide +kernel
theorem dX3_wrap_82 : decode cX3_wrap 82 = .ok (.iload_n 1, 1) := by decide +kernel
theorem dX3_wrap_83 : decode cX3_wrap 83 = .ok (.aload_n 0, 1) := by decide +kernel
theorem dX3_wrap_84 : decode cX3_wrap 84 = .ok (.getfield 21, 3) := by decide +kernel
theorem dX3_wrap_87 : decode cX3_wrap 87 = .ok (.iload_n 1, 1) := by decide +kernel
theorem dX3_wrap_88 : decode cX3_wrap 88 = .ok (.iconst 1, 1) := by decide +kernel
theorem dX3_wrap_89 : decode cX3_wrap 89 = .ok (.iadd, 1) := by decide +kernel
theorem dX3_wrap_90 : decode cX3_wrap 90 = .ok (.iload 5, 2) := by decide +kernel
theorem dX3_wrap_92 : decode cX3_wrap 92 = .ok (.invokestatic 41, 3) := by decide +kernel
theorem dX3_wrap_95 : decode cX3_wrap 95 = .ok (.aload_n 0, 1) := by decide +kernel
theorem dX3_wrap_96 : decode cX3_wrap 96 = .ok (.getfield 9, 3) := by decide +kernel
theorem dX3_wrap_99 : decode cX3_wrap 99 = .ok (.iload_n 1, 1) := by decide +kernel
theorem dX3_wrap_100 : decode cX3_wrap 100 = .ok (.iload_n 2, 1) := by decide +kernel
theorem dX3_wrap_101 : decode cX3_wrap 101 = .ok (.iastore, 1) := by decide +kernel
theorem dX3_wrap_102 : decode cX3_wrap 102 = .ok (.aload_n 0, 1) := by decide +kernel
theorem dX3_wrap_103 : decode cX3_wrap 103 = .ok (.getfield 15, 3) := by decide +kernel
theorem dX3_wrap_106 : decode cX3_wrap 106 = .ok (.iload_n 1, 1) := by decide +kernel
theorem dX3_wrap_107 : decode cX3_wrap 107 = .ok (.iload_n 3, 1) := by decide +kernel
theorem dX3_wrap_108 : decode cX3_wrap 108 = .ok (.iastore, 1) := by decide +kernel
theorem dX3_wrap_109 : decode cX3_wrap 109 = .ok (.aload_n 0, 1) := by decide +kernel
theorem dX3_wrap_110 : decode cX3_wrap 110 = .ok (.getfield 18, 3) := by decide +kernel
theorem dX3_wrap_113 : decode cX3_wrap 113 = .ok (.iload_n 1, 1) := by decide +kernel
theorem dX3_wrap_114 : decode cX3_wrap 114 = .ok (.iload 4, 2) := by decide +kernel
theorem dX3_wrap_116 : decode cX3_wrap 116 = .ok (.iastore, 1) := by decide +kernel
theorem dX3_wrap_117 : decode cX3_wrap 117 = .ok (.aload_n 0, 1) := by decide +kernel
theorem dX3_wrap_118 : decode cX3_wrap 118 = .ok (.getfield 21, 3) := by decide +kernel
theorem dX3_wrap_121 : decode cX3_wrap 121 = .ok (.iload_n 1, 1) := by decide +kernel
theorem dX3_wrap_122 : decode cX3_wrap 122 = .ok (.iconst 1, 1) := by decide +kernel
theorem dX3_wrap_123 : decode cX3_wrap 123 = .ok (.iastore, 1) := by decide +kernel
theorem dX3_wrap_124 : decode cX3_wrap 124 = .ok (.aload_n 0, 1) := by decide +kernel
theorem dX3_wrap_125 : decode cX3_wrap 125 = .ok (.dup, 1) := by decide +kernel
theorem dX3_wrap_126 : decode cX3_wrap 126 = .ok (.getfield 33, 3) := by decide +kernel
theorem dX3_wrap_129 : decode cX3_wrap 129 = .ok (.iconst 1, 1) := by decide +kernel
theorem dX3_wrap_130 : decode cX3_wrap 130 = .ok (.iadd, 1) := by decide +kernel
theorem dX3_wrap_131 : decode cX3_wrap 131 = .ok (.putfield 33, 3) := by decide +kernel
theorem dX3_wrap_134 : decode cX3_wrap 134 = .ok (.return_, 1) := by decide +kernel

theorem dX3_forget_0 : decode cX3_forget 0 = .ok (.aload_n 0, 1) := by decide +kernel
theorem dX3_forget_1 : decode cX3_forget 1 = .ok (.iconst 0, 1) := by decide +kernel
theorem dX3_forget_2 : decode cX3_forget 2 = .ok (.putfield 33, 3) := by decide +kernel
theorem dX3_forget_5 : decode cX3_forget 5 = .ok (.return_, 1) := by decide +kernel

theorem dX3_firstUnfilled_0 : decode cX3_firstUnfilled 0 = .ok (.iload_n 1, 1) := by decide +kernel
theorem dX3_firstUnfilled_1 : decode cX3_firstUnfilled 1 = .ok (.istore_n 2, 1) := by decide +kernel
theorem dX3_firstUnfilled_2 : decode cX3_firstUnfilled 2 = .ok (.iconst 0, 1) := by decide +kernel
theorem dX3_firstUnfilled_3 : decode cX3_firstUnfilled 3 = .ok (.istore_n 3, 1) := by decide +kernel
theorem dX3_firstUnfilled_4 : decode cX3_firstUnfilled 4 = .ok (.iload_n 3, 1) := by decide +kernel
theorem dX3_firstUnfilled_5 : decode cX3_firstUnfilled 5 = .ok (.aload_n 0, 1) := by decide +kernel
theorem dX3_firstUnfilled_6 : decode cX3_firstUnfilled 6 = .ok (.getfield 33, 3) := by decide +kernel
theorem dX3_firstUnfilled_9 : decode cX3_firstUnfilled 9 = .ok (.if_icmp .ge 39, 3) := by decide +kernel
theorem dX3_firstUnfilled_12 : decode cX3_firstUnfilled 12 = .ok (.aload_n 0, 1) := by decide +kernel
theorem dX3_firstUnfilled_13 : decode cX3_firstUnfilled 13 = .ok (.iload_n 2, 1) := by decide +kernel
theorem dX3_firstUnfilled_14 : decode cX3_firstUnfilled 14 = .ok (.invokevirtual 37, 3) := by decide +kernel
theorem dX3_firstUnfilled_17 : decode cX3_firstUnfilled 17 = .ok (.ifCond .eq 31, 3) := by decide +kernel
theorem dX3_firstUnfilled_20 : decode cX3_firstUnfilled 20 = .ok (.aload_n 0, 1) := by decide +kernel
theorem dX3_firstUnfilled_21 : decode cX3_firstUnfilled 21 = .ok (.getfield 30, 3) := by decide +kernel
theorem dX3_firstUnfilled_24 : decode cX3_firstUnfilled 24 = .ok (.iload_n 2, 1) := by decide +kernel
theorem dX3_firstUnfilled_25 : decode cX3_firstUnfilled 25 = .ok (.iaload, 1) := by decide +kernel
theorem dX3_firstUnfilled_26 : decode cX3_firstUnfilled 26 = .ok (.aload_n 0, 1) := by decide +kernel
theorem dX3_firstUnfilled_27 : decode cX3_firstUnfilled 27 = .ok (.getfield 21, 3) := by decide +kernel
theorem dX3_firstUnfilled_30 : decode cX3_firstUnfilled 30 = .ok (.iload_n 2, 1) := by decide +kernel
theorem dX3_firstUnfilled_31 : decode cX3_firstUnfilled 31 = .ok (.iaload, 1) := by decide +kernel
theorem dX3_firstUnfilled_32 : decode cX3_firstUnfilled 32 = .ok (.if_icmp .lt 16, 3) := by decide +kernel
theorem dX3_firstUnfilled_35 : decode cX3_firstUnfilled 35 = .ok (.aload_n 0, 1) := by decide +kernel
theorem dX3_firstUnfilled_36 : decode cX3_firstUnfilled 36 = .ok (.getfield 24, 3) := by decide +kernel
theorem dX3_firstUnfilled_39 : decode cX3_firstUnfilled 39 = .ok (.iload_n 2, 1) := by decide +kernel
theorem dX3_firstUnfilled_40 : decode cX3_firstUnfilled 40 = .ok (.iaload, 1) := by decide +kernel
theorem dX3_firstUnfilled_41 : decode cX3_firstUnfilled 41 = .ok (.istore_n 2, 1) := by decide +kernel
theorem dX3_firstUnfilled_42 : decode cX3_firstUnfilled 42 = .ok (.iinc 3 1, 3) := by decide +kernel
theorem dX3_firstUnfilled_45 : decode cX3_firstUnfilled 45 = .ok (.goto (-41), 3) := by decide +kernel
theorem dX3_firstUnfilled_48 : decode cX3_firstUnfilled 48 = .ok (.iload_n 2, 1) := by decide +kernel
theorem dX3_firstUnfilled_49 : decode cX3_firstUnfilled 49 = .ok (.ireturn, 1) := by decide +kernel

theorem dX3_link_0 : decode cX3_link 0 = .ok (.iconst (-1), 1) := by decide +kernel
theorem dX3_link_1 : decode cX3_link 1 = .ok (.istore_n 1, 1) := by decide +kernel
theorem dX3_link_2 : decode cX3_link 2 = .ok (.iconst 0, 1) := by decide +kernel
theorem dX3_link_3 : decode cX3_link 3 = .ok (.istore_n 2, 1) := by decide +kernel
theorem dX3_link_4 : decode cX3_link 4 = .ok (.iload_n 2, 1) := by decide +kernel
theorem dX3_link_5 : decode cX3_link 5 = .ok (.aload_n 0, 1) := by decide +kernel
theorem dX3_link_6 : decode cX3_link 6 = .ok (.getfield 33, 3) := by decide +kernel
theorem dX3_link_9 : decode cX3_link 9 = .ok (.if_icmp .ge 67, 3) := by decide +kernel
theorem dX3_link_12 : decode cX3_link 12 = .ok (.iload_n 2, 1) := by decide +kernel
theorem dX3_link_13 : decode cX3_link 13 = .ok (.sipush 16384, 3) := by decide +kernel
theorem dX3_link_16 : decode cX3_link 16 = .ok (.if_icmp .ge 60, 3) := by decide +kernel
theorem dX3_link_19 : decode cX3_link 19 = .ok (.aload_n 0, 1) := by decide +kernel
theorem dX3_link_20 : decode cX3_link 20 = .ok (.iload_n 1, 1) := by decide +kernel
theorem dX3_link_21 : decode cX3_link 21 = .ok (.invokevirtual 47, 3) := by decide +kernel
theorem dX3_link_24 : decode cX3_link 24 = .ok (.istore_n 1, 1) := by decide +kernel
theorem dX3_link_25 : decode cX3_link 25 = .ok (.aload_n 0, 1) := by decide +kernel
theorem dX3_link_26 : decode cX3_link 26 = .ok (.getfield 24, 3) := by decide +kernel
theorem dX3_link_29 : decode cX3_link 29 = .ok (.iload_n 2, 1) := by decide +kernel
theorem dX3_link_30 : decode cX3_link 30 = .ok (.iload_n 1, 1) := by decide +kernel
theorem dX3_link_31 : decode cX3_link 31 = .ok (.iastore, 1) := by decide +kernel
theorem dX3_link_32 : decode cX3_link 32 = .ok (.aload_n 0, 1) := by decide +kernel
theorem dX3_link_33 : decode cX3_link 33 = .ok (.getfield 27, 3) := by decide +kernel
theorem dX3_link_36 : decode cX3_link 36 = .ok (.iload_n 2, 1) := by decide +kernel
theorem dX3_link_37 : decode cX3_link 37 = .ok (.aload_n 0, 1) := by decide +kernel
theorem dX3_link_38 : decode cX3_link 38 = .ok (.iload_n 1, 1) := by decide +kernel
theorem dX3_link_39 : decode cX3_link 39 = .ok (.invokevirtual 37, 3) := by decide +kernel
theorem dX3_link_42 : decode cX3_link 42 = .ok (.ifCond .eq 17, 3) := by decide +kernel
theorem dX3_link_45 : decode cX3_link 45 = .ok (.aload_n 0, 1) := by decide +kernel
theorem dX3_link_46 : decode cX3_link 46 = .ok (.getfield 30, 3) := by decide +kernel
theorem dX3_link_49 : decode cX3_link 49 = .ok (.iload_n 1, 1) := by decide +kernel
theorem dX3_link_50 : decode cX3_link 50 = .ok (.dup2, 1) := by decide +kernel
theorem dX3_link_51 : decode cX3_link 51 = .ok (.iaload, 1) := by decide +kernel
theorem dX3_link_52 : decode cX3_link 52 = .ok (.dup_x2, 1) := by decide +kernel
theorem dX3_link_53 : decode cX3_link 53 = .ok (.iconst 1, 1) := by decide +kernel
theorem dX3_link_54 : decode cX3_link 54 = .ok (.iadd, 1) := by decide +kernel
theorem dX3_link_55 : decode cX3_link 55 = .ok (.iastore, 1) := by decide +kernel
theorem dX3_link_56 : decode cX3_link 56 = .ok (.goto 4, 3) := by decide +kernel
theorem dX3_link_59 : decode cX3_link 59 = .ok (.iconst 0, 1) := by decide +kernel
theorem dX3_link_60 : decode cX3_link 60 = .ok (.iastore, 1) := by decide +kernel
theorem dX3_link_61 : decode cX3_link 61 = .ok (.aload_n 0, 1) := by decide +kernel
theorem dX3_link_62 : decode cX3_link 62 = .ok (.getfield 30, 3) := by decide +kernel
theorem dX3_link_65 : decode cX3_link 65 = .ok (.iload_n 2, 1) := by decide +kernel
theorem dX3_link_66 : decode cX3_link 66 = .ok (.iconst 0, 1) := by decide +kernel
theorem dX3_link_67 : decode cX3_link 67 = .ok (.iastore, 1) := by decide +kernel
theorem dX3_link_68 : decode cX3_link 68 = .ok (.iload_n 2, 1) := by decide +kernel
theorem dX3_link_69 : decode cX3_link 69 = .ok (.istore_n 1, 1) := by decide +kernel
theorem dX3_link_70 : decode cX3_link 70 = .ok (.iinc 2 1, 3) := by decide +kernel
theorem dX3_link_73 : decode cX3_link 73 = .ok (.goto (-69), 3) := by decide +kernel
theorem dX3_link_76 : decode cX3_link 76 = .ok (.return_, 1) := by decide +kernel

theorem dX3_children_0 : decode cX3_children 0 = .ok (.aload_n 0, 1) := by decide +kernel
theorem dX3_children_1 : decode cX3_children 1 = .ok (.iload_n 1, 1) := by decide +kernel
theorem dX3_children_2 : decode cX3_children 2 = .ok (.invokevirtual 37, 3) := by decide +kernel
theorem dX3_children_5 : decode cX3_children 5 = .ok (.ifCond .eq 12, 3) := by decide +kernel
theorem dX3_children_8 : decode cX3_children 8 = .ok (.aload_n 0, 1) := by decide +kernel
theorem dX3_children_9 : decode cX3_children 9 = .ok (.getfield 21, 3) := by decide +kernel
theorem dX3_children_12 : decode cX3_children 12 = .ok (.iload_n 1, 1) := by decide +kernel
theorem dX3_children_13 : decode cX3_children 13 = .ok (.iaload, 1) := by decide +kernel
theorem dX3_children_14 : decode cX3_children 14 = .ok (.goto 4, 3) := by decide +kernel
theorem dX3_children_17 : decode cX3_children 17 = .ok (.iconst (-1), 1) := by decide +kernel
theorem dX3_children_18 : decode cX3_children 18 = .ok (.ireturn, 1) := by decide +kernel

theorem dX3_kind_0 : decode cX3_kind 0 = .ok (.aload_n 0, 1) := by decide +kernel
theorem dX3_kind_1 : decode cX3_kind 1 = .ok (.iload_n 1, 1) := by decide +kernel
theorem dX3_kind_2 : decode cX3_kind 2 = .ok (.invokevirtual 37, 3) := by decide +kernel
theorem dX3_kind_5 : decode cX3_kind 5 = .ok (.ifCond .eq 12, 3) := by decide +kernel
theorem dX3_kind_8 : decode cX3_kind 8 = .ok (.aload_n 0, 1) := by decide +kernel
theorem dX3_kind_9 : decode cX3_kind 9 = .ok (.getfield 9, 3) := by decide +kernel
theorem dX3_kind_12 : decode cX3_kind 12 = .ok (.iload_n 1, 1) := by decide +kernel
theorem dX3_kind_13 : decode cX3_kind 13 = .ok (.iaload, 1) := by decide +kernel
theorem dX3_kind_14 : decode cX3_kind 14 = .ok (.goto 4, 3) := by decide +kernel
theorem dX3_kind_17 : decode cX3_kind 17 = .ok (.iconst (-1), 1) := by decide +kernel
theorem dX3_kind_18 : decode cX3_kind 18 = .ok (.ireturn, 1) := by decide +kernel

theorem dX3_parent_0 : decode cX3_parent 0 = .ok (.aload_n 0, 1) := by decide +kernel
theorem dX3_parent_1 : decode cX3_parent 1 = .ok (.iload_n 1, 1) := by decide +kernel
theorem dX3_parent_2 : decode cX3_parent 2 = .ok (.invokevirtual 37, 3) := by decide +kernel
theorem dX3_parent_5 : decode cX3_parent 5 = .ok (.ifCond .eq 12, 3) := by decide +kernel
theorem dX3_parent_8 : decode cX3_parent 8 = .ok (.aload_n 0, 1) := by decide +kernel
theorem dX3_parent_9 : decode cX3_parent 9 = .ok (.getfield 24, 3) := by decide +kernel
theorem dX3_parent_12 : decode cX3_parent 12 = .ok (.iload_n 1, 1) := by decide +kernel
theorem dX3_parent_13 : decode cX3_parent 13 = .ok (.iaload, 1) := by decide +kernel
theorem dX3_parent_14 : decode cX3_parent 14 = .ok (.goto 4, 3) := by decide +kernel
theorem dX3_parent_17 : decode cX3_parent 17 = .ok (.iconst (-1), 1) := by decide +kernel
theorem dX3_parent_18 : decode cX3_parent 18 = .ok (.ireturn, 1) := by decide +kernel

theorem dX3_place_0 : decode cX3_place 0 = .ok (.aload_n 0, 1) := by decide +kernel
theorem dX3_place_1 : decode cX3_place 1 = .ok (.iload_n 1, 1) := by decide +kernel
theorem dX3_place_2 : decode cX3_place 2 = .ok (.invokevirtual 37, 3) := by decide +kernel
theorem dX3_place_5 : decode cX3_place 5 = .ok (.ifCond .eq 12, 3) := by decide +kernel
theorem dX3_place_8 : decode cX3_place 8 = .ok (.aload_n 0, 1) := by decide +kernel
theorem dX3_place_9 : decode cX3_place 9 = .ok (.getfield 15, 3) := by decide +kernel
theorem dX3_place_12 : decode cX3_place 12 = .ok (.iload_n 1, 1) := by decide +kernel
theorem dX3_place_13 : decode cX3_place 13 = .ok (.iaload, 1) := by decide +kernel
theorem dX3_place_14 : decode cX3_place 14 = .ok (.goto 4, 3) := by decide +kernel
theorem dX3_place_17 : decode cX3_place 17 = .ok (.iconst (-1), 1) := by decide +kernel
theorem dX3_place_18 : decode cX3_place 18 = .ok (.ireturn, 1) := by decide +kernel

theorem dX3_value_0 : decode cX3_value 0 = .ok (.aload_n 0, 1) := by decide +kernel
theorem dX3_value_1 : decode cX3_value 1 = .ok (.iload_n 1, 1) := by decide +kernel
theorem dX3_value_2 : decode cX3_value 2 = .ok (.invokevirtual 37, 3) := by decide +kernel
theorem dX3_value_5 : decode cX3_value 5 = .ok (.ifCond .eq 12, 3) := by decide +kernel
theorem dX3_value_8 : decode cX3_value 8 = .ok (.aload_n 0, 1) := by decide +kernel
theorem dX3_value_9 : decode cX3_value 9 = .ok (.getfield 18, 3) := by decide +kernel
theorem dX3_value_12 : decode cX3_value 12 = .ok (.iload_n 1, 1) := by decide +kernel
theorem dX3_value_13 : decode cX3_value 13 = .ok (.iaload, 1) := by decide +kernel
theorem dX3_value_14 : decode cX3_value 14 = .ok (.goto 4, 3) := by decide +kernel
theorem dX3_value_17 : decode cX3_value 17 = .ok (.iconst (-1), 1) := by decide +kernel
theorem dX3_value_18 : decode cX3_value 18 = .ok (.ireturn, 1) := by decide +kernel

theorem dX3_rank_0 : decode cX3_rank 0 = .ok (.aload_n 0, 1) := by decide +kernel
theorem dX3_rank_1 : decode cX3_rank 1 = .ok (.iload_n 1, 1) := by decide +kernel
theorem dX3_rank_2 : decode cX3_rank 2 = .ok (.invokevirtual 37, 3) := by decide +kernel
theorem dX3_rank_5 : decode cX3_rank 5 = .ok (.ifCond .eq 12, 3) := by decide +kernel
theorem dX3_rank_8 : decode cX3_rank 8 = .ok (.aload_n 0, 1) := by decide +kernel
theorem dX3_rank_9 : decode cX3_rank 9 = .ok (.getfield 27, 3) := by decide +kernel
theorem dX3_rank_12 : decode cX3_rank 12 = .ok (.iload_n 1, 1) := by decide +kernel
theorem dX3_rank_13 : decode cX3_rank 13 = .ok (.iaload, 1) := by decide +kernel
theorem dX3_rank_14 : decode cX3_rank 14 = .ok (.goto 4, 3) := by decide +kernel
theorem dX3_rank_17 : decode cX3_rank 17 = .ok (.iconst (-1), 1) := by decide +kernel
theorem dX3_rank_18 : decode cX3_rank 18 = .ok (.ireturn, 1) := by decide +kernel
