theorem dX4_kindOfBlock_0 : decode cX4_kindOfBlock 0 = .ok (.iload_n 0, 1) := by decide +kernel
theorem dX4_kindOfBlock_1 : decode cX4_kindOfBlock 1 = .ok (.lookupswitch 31 #[(256, 27), (258, 29)], 27) := by decide +kernel
theorem dX4_kindOfBlock_28 : decode cX4_kindOfBlock 28 = .ok (.iconst 1, 1) := by decide +kernel
theorem dX4_kindOfBlock_29 : decode cX4_kindOfBlock 29 = .ok (.ireturn, 1) := by decide +kernel
theorem dX4_kindOfBlock_30 : decode cX4_kindOfBlock 30 = .ok (.iconst 2, 1) := by decide +kernel
theorem dX4_kindOfBlock_31 : decode cX4_kindOfBlock 31 = .ok (.ireturn, 1) := by decide +kernel
theorem dX4_kindOfBlock_32 : decode cX4_kindOfBlock 32 = .ok (.iconst 3, 1) := by decide +kernel
theorem dX4_kindOfBlock_33 : decode cX4_kindOfBlock 33 = .ok (.ireturn, 1) := by decide +kernel

theorem dX4_take_0 : decode cX4_take 0 = .ok (.aload_n 0, 1) := by decide +kernel
theorem dX4_take_1 : decode cX4_take 1 = .ok (.getfield 26, 3) := by decide +kernel
theorem dX4_take_4 : decode cX4_take 4 = .ok (.iload_n 1, 1) := by decide +kernel
theorem dX4_take_5 : decode cX4_take 5 = .ok (.if_icmp .ne 12, 3) := by decide +kernel
theorem dX4_take_8 : decode cX4_take 8 = .ok (.aload_n 0, 1) := by decide +kernel
theorem dX4_take_9 : decode cX4_take 9 = .ok (.getfield 26, 3) := by decide +kernel
theorem dX4_take_12 : decode cX4_take 12 = .ok (.bipush 6, 2) := by decide +kernel
theorem dX4_take_14 : decode cX4_take 14 = .ok (.if_icmp .ne 10, 3) := by decide +kernel
theorem dX4_take_17 : decode cX4_take 17 = .ok (.aload_n 0, 1) := by decide +kernel
theorem dX4_take_18 : decode cX4_take 18 = .ok (.bipush 6, 2) := by decide +kernel
theorem dX4_take_20 : decode cX4_take 20 = .ok (.putfield 26, 3) := by decide +kernel
theorem dX4_take_23 : decode cX4_take 23 = .ok (.return_, 1) := by decide +kernel
theorem dX4_take_24 : decode cX4_take 24 = .ok (.aload_n 0, 1) := by decide +kernel
theorem dX4_take_25 : decode cX4_take 25 = .ok (.aload_n 0, 1) := by decide +kernel
theorem dX4_take_26 : decode cX4_take 26 = .ok (.getfield 92, 3) := by decide +kernel
theorem dX4_take_29 : decode cX4_take 29 = .ok (.putfield 94, 3) := by decide +kernel
theorem dX4_take_32 : decode cX4_take 32 = .ok (.aload_n 0, 1) := by decide +kernel
theorem dX4_take_33 : decode cX4_take 33 = .ok (.dup, 1) := by decide +kernel
theorem dX4_take_34 : decode cX4_take 34 = .ok (.getfield 23, 3) := by decide +kernel
theorem dX4_take_37 : decode cX4_take 37 = .ok (.iconst 1, 1) := by decide +kernel
theorem dX4_take_38 : decode cX4_take 38 = .ok (.iadd, 1) := by decide +kernel
theorem dX4_take_39 : decode cX4_take 39 = .ok (.putfield 23, 3) := by decide +kernel
theorem dX4_take_42 : decode cX4_take 42 = .ok (.aload_n 0, 1) := by decide +kernel
theorem dX4_take_43 : decode cX4_take 43 = .ok (.getfield 23, 3) := by decide +kernel
theorem dX4_take_46 : decode cX4_take 46 = .ok (.ifCond .lt 31, 3) := by decide +kernel
theorem dX4_take_49 : decode cX4_take 49 = .ok (.aload_n 0, 1) := by decide +kernel
theorem dX4_take_50 : decode cX4_take 50 = .ok (.getfield 23, 3) := by decide +kernel
theorem dX4_take_53 : decode cX4_take 53 = .ok (.aload_n 0, 1) := by decide +kernel
theorem dX4_take_54 : decode cX4_take 54 = .ok (.getfield 15, 3) := by decide +kernel
theorem dX4_take_57 : decode cX4_take 57 = .ok (.getfield 97, 3) := by decide +kernel
theorem dX4_take_60 : decode cX4_take 60 = .ok (.if_icmp .ge 17, 3) := by decide +kernel
theorem dX4_take_63 : decode cX4_take 63 = .ok (.aload_n 0, 1) := by decide +kernel
theorem dX4_take_64 : decode cX4_take 64 = .ok (.getfield 23, 3) := by decide +kernel
theorem dX4_take_67 : decode cX4_take 67 = .ok (.sipush 8193, 3) := by decide +kernel
theorem dX4_take_70 : decode cX4_take 70 = .ok (.if_icmp .ge 7, 3) := by decide +kernel
theorem dX4_take_73 : decode cX4_take 73 = .ok (.iconst 1, 1) := by decide +kernel
theorem dX4_take_74 : decode cX4_take 74 = .ok (.goto 4, 3) := by decide +kernel
theorem dX4_take_77 : decode cX4_take 77 = .ok (.iconst 0, 1) := by decide +kernel
theorem dX4_take_78 : decode cX4_take 78 = .ok (.istore_n 2, 1) := by decide +kernel
theorem dX4_take_79 : decode cX4_take 79 = .ok (.aload_n 0, 1) := by decide +kernel
theorem dX4_take_80 : decode cX4_take 80 = .ok (.iload_n 2, 1) := by decide +kernel
theorem dX4_take_81 : decode cX4_take 81 = .ok (.ifCond .eq 18, 3) := by decide +kernel
theorem dX4_take_84 : decode cX4_take 84 = .ok (.aload_n 0, 1) := by decide +kernel
theorem dX4_take_85 : decode cX4_take 85 = .ok (.getfield 15, 3) := by decide +kernel
theorem dX4_take_88 : decode cX4_take 88 = .ok (.getfield 100, 3) := by decide +kernel
theorem dX4_take_91 : decode cX4_take 91 = .ok (.aload_n 0, 1) := by decide +kernel
theorem dX4_take_92 : decode cX4_take 92 = .ok (.getfield 23, 3) := by decide +kernel
theorem dX4_take_95 : decode cX4_take 95 = .ok (.iaload, 1) := by decide +kernel
theorem dX4_take_96 : decode cX4_take 96 = .ok (.goto 5, 3) := by decide +kernel
theorem dX4_take_99 : decode cX4_take 99 = .ok (.bipush 6, 2) := by decide +kernel
theorem dX4_take_101 : decode cX4_take 101 = .ok (.putfield 26, 3) := by decide +kernel
theorem dX4_take_104 : decode cX4_take 104 = .ok (.aload_n 0, 1) := by decide +kernel
theorem dX4_take_105 : decode cX4_take 105 = .ok (.iload_n 2, 1) := by decide +kernel
theorem dX4_take_106 : decode cX4_take 106 = .ok (.ifCond .eq 18, 3) := by decide +kernel
theorem dX4_take_109 : decode cX4_take 109 = .ok (.aload_n 0, 1) := by decide +kernel
theorem dX4_take_110 : decode cX4_take 110 = .ok (.getfield 15, 3) := by decide +kernel
theorem dX4_take_113 : decode cX4_take 113 = .ok (.getfield 104, 3) := by decide +kernel
theorem dX4_take_116 : decode cX4_take 116 = .ok (.aload_n 0, 1) := by decide +kernel
theorem dX4_take_117 : decode cX4_take 117 = .ok (.getfield 23, 3) := by decide +kernel
theorem dX4_take_120 : decode cX4_take 120 = .ok (.iaload, 1) := by decide +kernel
theorem dX4_take_121 : decode cX4_take 121 = .ok (.goto 4, 3) := by decide +kernel
theorem dX4_take_124 : decode cX4_take 124 = .ok (.iconst (-1), 1) := by decide +kernel
theorem dX4_take_125 : decode cX4_take 125 = .ok (.putfield 92, 3) := by decide +kernel
theorem dX4_take_128 : decode cX4_take 128 = .ok (.aload_n 0, 1) := by decide +kernel
theorem dX4_take_129 : decode cX4_take 129 = .ok (.iload_n 2, 1) := by decide +kernel
theorem dX4_take_130 : decode cX4_take 130 = .ok (.ifCond .eq 18, 3) := by decide +kernel
theorem dX4_take_133 : decode cX4_take 133 = .ok (.aload_n 0, 1) := by decide +kernel
theorem dX4_take_134 : decode cX4_take 134 = .ok (.getfield 15, 3) := by decide +kernel
theorem dX4_take_137 : decode cX4_take 137 = .ok (.getfield 107, 3) := by decide +kernel
theorem dX4_take_140 : decode cX4_take 140 = .ok (.aload_n 0, 1) := by decide +kernel
theorem dX4_take_141 : decode cX4_take 141 = .ok (.getfield 23, 3) := by decide +kernel
theorem dX4_take_144 : decode cX4_take 144 = .ok (.iaload, 1) := by decide +kernel
theorem dX4_take_145 : decode cX4_take 145 = .ok (.goto 4, 3) := by decide +kernel
theorem dX4_take_148 : decode cX4_take 148 = .ok (.iconst 0, 1) := by decide +kernel
theorem dX4_take_149 : decode cX4_take 149 = .ok (.putfield 110, 3) := by decide +kernel
theorem dX4_take_152 : decode cX4_take 152 = .ok (.return_, 1) := by decide +kernel

theorem dX4_simpleType_0 : decode cX4_simpleType 0 = .ok (.aload_n 0, 1) := by decide +kernel
theorem dX4_simpleType_1 : decode cX4_simpleType 1 = .ok (.getfield 26, 3) := by decide +kernel
theorem dX4_simpleType_4 : decode cX4_simpleType 4 = .ok (.sipush 267, 3) := by decide +kernel
theorem dX4_simpleType_7 : decode cX4_simpleType 7 = .ok (.if_icmp .eq 23, 3) := by decide +kernel
theorem dX4_simpleType_10 : decode cX4_simpleType 10 = .ok (.aload_n 0, 1) := by decide +kernel
theorem dX4_simpleType_11 : decode cX4_simpleType 11 = .ok (.getfield 26, 3) := by decide +kernel
theorem dX4_simpleType_14 : decode cX4_simpleType 14 = .ok (.sipush 268, 3) := by decide +kernel
theorem dX4_simpleType_17 : decode cX4_simpleType 17 = .ok (.if_icmp .eq 13, 3) := by decide +kernel
theorem dX4_simpleType_20 : decode cX4_simpleType 20 = .ok (.aload_n 0, 1) := by decide +kernel
theorem dX4_simpleType_21 : decode cX4_simpleType 21 = .ok (.getfield 26, 3) := by decide +kernel
theorem dX4_simpleType_24 : decode cX4_simpleType 24 = .ok (.sipush 269, 3) := by decide +kernel
theorem dX4_simpleType_27 : decode cX4_simpleType 27 = .ok (.if_icmp .ne 37, 3) := by decide +kernel
theorem dX4_simpleType_30 : decode cX4_simpleType 30 = .ok (.aload_n 0, 1) := by decide +kernel
theorem dX4_simpleType_31 : decode cX4_simpleType 31 = .ok (.getfield 19, 3) := by decide +kernel
theorem dX4_simpleType_34 : decode cX4_simpleType 34 = .ok (.iload_n 1, 1) := by decide +kernel
theorem dX4_simpleType_35 : decode cX4_simpleType 35 = .ok (.bipush 8, 2) := by decide +kernel
theorem dX4_simpleType_37 : decode cX4_simpleType 37 = .ok (.aload_n 0, 1) := by decide +kernel
theorem dX4_simpleType_38 : decode cX4_simpleType 38 = .ok (.getfield 92, 3) := by decide +kernel
theorem dX4_simpleType_41 : decode cX4_simpleType 41 = .ok (.aload_n 0, 1) := by decide +kernel
theorem dX4_simpleType_42 : decode cX4_simpleType 42 = .ok (.getfield 26, 3) := by decide +kernel
theorem dX4_simpleType_45 : decode cX4_simpleType 45 = .ok (.sipush 267, 3) := by decide +kernel
theorem dX4_simpleType_48 : decode cX4_simpleType 48 = .ok (.isub, 1) := by decide +kernel
theorem dX4_simpleType_49 : decode cX4_simpleType 49 = .ok (.invokevirtual 50, 3) := by decide +kernel
theorem dX4_simpleType_52 : decode cX4_simpleType 52 = .ok (.pop, 1) := by decide +kernel
theorem dX4_simpleType_53 : decode cX4_simpleType 53 = .ok (.aload_n 0, 1) := by decide +kernel
theorem dX4_simpleType_54 : decode cX4_simpleType 54 = .ok (.aload_n 0, 1) := by decide +kernel
theorem dX4_simpleType_55 : decode cX4_simpleType 55 = .ok (.getfield 26, 3) := by decide +kernel
theorem dX4_simpleType_58 : decode cX4_simpleType 58 = .ok (.invokevirtual 39, 3) := by decide +kernel
theorem dX4_simpleType_61 : decode cX4_simpleType 61 = .ok (.goto 9, 3) := by decide +kernel
theorem dX4_simpleType_64 : decode cX4_simpleType 64 = .ok (.aload_n 0, 1) := by decide +kernel
theorem dX4_simpleType_65 : decode cX4_simpleType 65 = .ok (.bipush 6, 2) := by decide +kernel
theorem dX4_simpleType_67 : decode cX4_simpleType 67 = .ok (.putfield 26, 3) := by decide +kernel
theorem dX4_simpleType_70 : decode cX4_simpleType 70 = .ok (.return_, 1) := by decide +kernel

theorem dX4_takeName_0 : decode cX4_takeName 0 = .ok (.aload_n 0, 1) := by decide +kernel
theorem dX4_takeName_1 : decode cX4_takeName 1 = .ok (.getfield 110, 3) := by decide +kernel
theorem dX4_takeName_4 : decode cX4_takeName 4 = .ok (.istore_n 1, 1) := by decide +kernel
theorem dX4_takeName_5 : decode cX4_takeName 5 = .ok (.aload_n 0, 1) := by decide +kernel
theorem dX4_takeName_6 : decode cX4_takeName 6 = .ok (.iconst 1, 1) := by decide +kernel
theorem dX4_takeName_7 : decode cX4_takeName 7 = .ok (.invokevirtual 39, 3) := by decide +kernel
theorem dX4_takeName_10 : decode cX4_takeName 10 = .ok (.iload_n 1, 1) := by decide +kernel
theorem dX4_takeName_11 : decode cX4_takeName 11 = .ok (.ireturn, 1) := by decide +kernel

theorem dX4_blockHead_0 : decode cX4_blockHead 0 = .ok (.aload_n 0, 1) := by decide +kernel
theorem dX4_blockHead_1 : decode cX4_blockHead 1 = .ok (.getfield 26, 3) := by decide +kernel
theorem dX4_blockHead_4 : decode cX4_blockHead 4 = .ok (.istore_n 2, 1) := by decide +kernel
theorem dX4_blockHead_5 : decode cX4_blockHead 5 = .ok (.aload_n 0, 1) := by decide +kernel
theorem dX4_blockHead_6 : decode cX4_blockHead 6 = .ok (.getfield 92, 3) := by decide +kernel
theorem dX4_blockHead_9 : decode cX4_blockHead 9 = .ok (.istore_n 3, 1) := by decide +kernel
theorem dX4_blockHead_10 : decode cX4_blockHead 10 = .ok (.aload_n 0, 1) := by decide +kernel
theorem dX4_blockHead_11 : decode cX4_blockHead 11 = .ok (.iload_n 2, 1) := by decide +kernel
theorem dX4_blockHead_12 : decode cX4_blockHead 12 = .ok (.invokevirtual 39, 3) := by decide +kernel
theorem dX4_blockHead_15 : decode cX4_blockHead 15 = .ok (.aload_n 0, 1) := by decide +kernel
theorem dX4_blockHead_16 : decode cX4_blockHead 16 = .ok (.getfield 19, 3) := by decide +kernel
theorem dX4_blockHead_19 : decode cX4_blockHead 19 = .ok (.iload_n 1, 1) := by decide +kernel
theorem dX4_blockHead_20 : decode cX4_blockHead 20 = .ok (.iload_n 2, 1) := by decide +kernel
theorem dX4_blockHead_21 : decode cX4_blockHead 21 = .ok (.invokestatic 115, 3) := by decide +kernel
theorem dX4_blockHead_24 : decode cX4_blockHead 24 = .ok (.iload_n 3, 1) := by decide +kernel
theorem dX4_blockHead_25 : decode cX4_blockHead 25 = .ok (.aload_n 0, 1) := by decide +kernel
theorem dX4_blockHead_26 : decode cX4_blockHead 26 = .ok (.invokevirtual 118, 3) := by decide +kernel
theorem dX4_blockHead_29 : decode cX4_blockHead 29 = .ok (.invokevirtual 50, 3) := by decide +kernel
theorem dX4_blockHead_32 : decode cX4_blockHead 32 = .ok (.istore 4, 2) := by decide +kernel
theorem dX4_blockHead_34 : decode cX4_blockHead 34 = .ok (.iload_n 2, 1) := by decide +kernel
theorem dX4_blockHead_35 : decode cX4_blockHead 35 = .ok (.sipush 256, 3) := by decide +kernel
theorem dX4_blockHead_38 : decode cX4_blockHead 38 = .ok (.if_icmp .ne 15, 3) := by decide +kernel
theorem dX4_blockHead_41 : decode cX4_blockHead 41 = .ok (.aload_n 0, 1) := by decide +kernel
theorem dX4_blockHead_42 : decode cX4_blockHead 42 = .ok (.bipush 58, 2) := by decide +kernel
theorem dX4_blockHead_44 : decode cX4_blockHead 44 = .ok (.invokevirtual 39, 3) := by decide +kernel
theorem dX4_blockHead_47 : decode cX4_blockHead 47 = .ok (.aload_n 0, 1) := by decide +kernel
theorem dX4_blockHead_48 : decode cX4_blockHead 48 = .ok (.iload 4, 2) := by decide +kernel
theorem dX4_blockHead_50 : decode cX4_blockHead 50 = .ok (.invokevirtual 122, 3) := by decide +kernel
theorem dX4_blockHead_53 : decode cX4_blockHead 53 = .ok (.iload 4, 2) := by decide +kernel
theorem dX4_blockHead_55 : decode cX4_blockHead 55 = .ok (.ireturn, 1) := by decide +kernel

theorem dX4_mayOpen_0 : decode cX4_mayOpen 0 = .ok (.aload_n 0, 1) := by decide +kernel
theorem dX4_mayOpen_1 : decode cX4_mayOpen 1 = .ok (.getfield 32, 3) := by decide +kernel
theorem dX4_mayOpen_4 : decode cX4_mayOpen 4 = .ok (.aload_n 0, 1) := by decide +kernel
theorem dX4_mayOpen_5 : decode cX4_mayOpen 5 = .ok (.getfield 29, 3) := by decide +kernel
theorem dX4_mayOpen_8 : decode cX4_mayOpen 8 = .ok (.iadd, 1) := by decide +kernel
theorem dX4_mayOpen_9 : decode cX4_mayOpen 9 = .ok (.bipush 60, 2) := by decide +kernel
theorem dX4_mayOpen_11 : decode cX4_mayOpen 11 = .ok (.if_icmp .ge 5, 3) := by decide +kernel
theorem dX4_mayOpen_14 : decode cX4_mayOpen 14 = .ok (.iconst 1, 1) := by decide +kernel
theorem dX4_mayOpen_15 : decode cX4_mayOpen 15 = .ok (.ireturn, 1) := by decide +kernel
theorem dX4_mayOpen_16 : decode cX4_mayOpen 16 = .ok (.aload_n 0, 1) := by decide +kernel
theorem dX4_mayOpen_17 : decode cX4_mayOpen 17 = .ok (.iconst 1, 1) := by decide +kernel
theorem dX4_mayOpen_18 : decode cX4_mayOpen 18 = .ok (.putfield 35, 3) := by decide +kernel
theorem dX4_mayOpen_21 : decode cX4_mayOpen 21 = .ok (.aload_n 0, 1) := by decide +kernel
theorem dX4_mayOpen_22 : decode cX4_mayOpen 22 = .ok (.bipush 6, 2) := by decide +kernel
theorem dX4_mayOpen_24 : decode cX4_mayOpen 24 = .ok (.putfield 26, 3) := by decide +kernel
theorem dX4_mayOpen_27 : decode cX4_mayOpen 27 = .ok (.iconst 0, 1) := by decide +kernel
theorem dX4_mayOpen_28 : decode cX4_mayOpen 28 = .ok (.ireturn, 1) := by decide +kernel

theorem dX4_expression_0 : decode cX4_expression 0 = .ok (.aload_n 0, 1) := by decide +kernel
theorem dX4_expression_1 : decode cX4_expression 1 = .ok (.getfield 19, 3) := by decide +kernel
theorem dX4_expression_4 : decode cX4_expression 4 = .ok (.getfield 165, 3) := by decide +kernel
theorem dX4_expression_7 : decode cX4_expression 7 = .ok (.istore_n 3, 1) := by decide +kernel
theorem dX4_expression_8 : decode cX4_expression 8 = .ok (.aload_n 0, 1) := by decide +kernel
theorem dX4_expression_9 : decode cX4_expression 9 = .ok (.iload_n 1, 1) := by decide +kernel
theorem dX4_expression_10 : decode cX4_expression 10 = .ok (.invokevirtual 192, 3) := by decide +kernel
theorem dX4_expression_13 : decode cX4_expression 13 = .ok (.iconst 0, 1) := by decide +kernel
theorem dX4_expression_14 : decode cX4_expression 14 = .ok (.istore 4, 2) := by decide +kernel
theorem dX4_expression_16 : decode cX4_expression 16 = .ok (.iload 4, 2) := by decide +kernel
theorem dX4_expression_18 : decode cX4_expression 18 = .ok (.sipush 8192, 3) := by decide +kernel
theorem dX4_expression_21 : decode cX4_expression 21 = .ok (.if_icmp .ge 82, 3) := by decide +kernel
theorem dX4_expression_24 : decode cX4_expression 24 = .ok (.aload_n 0, 1) := by decide +kernel
theorem dX4_expression_25 : decode cX4_expression 25 = .ok (.getfield 26, 3) := by decide +kernel
theorem dX4_expression_28 : decode cX4_expression 28 = .ok (.invokestatic 195, 3) := by decide +kernel
theorem dX4_expression_31 : decode cX4_expression 31 = .ok (.istore 5, 2) := by decide +kernel
theorem dX4_expression_33 : decode cX4_expression 33 = .ok (.iload 5, 2) := by decide +kernel
theorem dX4_expression_35 : decode cX4_expression 35 = .ok (.invokestatic 198, 3) := by decide +kernel
theorem dX4_expression_38 : decode cX4_expression 38 = .ok (.istore 6, 2) := by decide +kernel
theorem dX4_expression_40 : decode cX4_expression 40 = .ok (.iload 6, 2) := by decide +kernel
theorem dX4_expression_42 : decode cX4_expression 42 = .ok (.iload_n 2, 1) := by decide +kernel
theorem dX4_expression_43 : decode cX4_expression 43 = .ok (.if_icmp .lt 10, 3) := by decide +kernel
theorem dX4_expression_46 : decode cX4_expression 46 = .ok (.aload_n 0, 1) := by decide +kernel
theorem dX4_expression_47 : decode cX4_expression 47 = .ok (.invokevirtual 112, 3) := by decide +kernel
theorem dX4_expression_50 : decode cX4_expression 50 = .ok (.ifCond .ne 4, 3) := by decide +kernel
theorem dX4_expression_53 : decode cX4_expression 53 = .ok (.return_, 1) := by decide +kernel
theorem dX4_expression_54 : decode cX4_expression 54 = .ok (.aload_n 0, 1) := by decide +kernel
theorem dX4_expression_55 : decode cX4_expression 55 = .ok (.getfield 19, 3) := by decide +kernel
theorem dX4_expression_58 : decode cX4_expression 58 = .ok (.iload_n 3, 1) := by decide +kernel
theorem dX4_expression_59 : decode cX4_expression 59 = .ok (.bipush 35, 2) := by decide +kernel
theorem dX4_expression_61 : decode cX4_expression 61 = .ok (.aload_n 0, 1) := by decide +kernel
theorem dX4_expression_62 : decode cX4_expression 62 = .ok (.getfield 92, 3) := by decide +kernel
theorem dX4_expression_65 : decode cX4_expression 65 = .ok (.iload 5, 2) := by decide +kernel
theorem dX4_expression_67 : decode cX4_expression 67 = .ok (.invokevirtual 175, 3) := by decide +kernel
theorem dX4_expression_70 : decode cX4_expression 70 = .ok (.aload_n 0, 1) := by decide +kernel
theorem dX4_expression_71 : decode cX4_expression 71 = .ok (.dup, 1) := by decide +kernel
theorem dX4_expression_72 : decode cX4_expression 72 = .ok (.getfield 29, 3) := by decide +kernel
theorem dX4_expression_75 : decode cX4_expression 75 = .ok (.iconst 1, 1) := by decide +kernel
theorem dX4_expression_76 : decode cX4_expression 76 = .ok (.iadd, 1) := by decide +kernel
theorem dX4_expression_77 : decode cX4_expression 77 = .ok (.putfield 29, 3) := by decide +kernel
theorem dX4_expression_80 : decode cX4_expression 80 = .ok (.aload_n 0, 1) := by decide +kernel
theorem dX4_expression_81 : decode cX4_expression 81 = .ok (.aload_n 0, 1) := by decide +kernel
theorem dX4_expression_82 : decode cX4_expression 82 = .ok (.getfield 26, 3) := by decide +kernel
theorem dX4_expression_85 : decode cX4_expression 85 = .ok (.invokevirtual 39, 3) := by decide +kernel
theorem dX4_expression_88 : decode cX4_expression 88 = .ok (.aload_n 0, 1) := by decide +kernel
theorem dX4_expression_89 : decode cX4_expression 89 = .ok (.iload_n 3, 1) := by decide +kernel
theorem dX4_expression_90 : decode cX4_expression 90 = .ok (.iload 6, 2) := by decide +kernel
theorem dX4_expression_92 : decode cX4_expression 92 = .ok (.iconst 1, 1) := by decide +kernel
theorem dX4_expression_93 : decode cX4_expression 93 = .ok (.iadd, 1) := by decide +kernel
theorem dX4_expression_94 : decode cX4_expression 94 = .ok (.invokevirtual 188, 3) := by decide +kernel
theorem dX4_expression_97 : decode cX4_expression 97 = .ok (.iinc 4 1, 3) := by decide +kernel
theorem dX4_expression_100 : decode cX4_expression 100 = .ok (.goto (-84), 3) := by decide +kernel
theorem dX4_expression_103 : decode cX4_expression 103 = .ok (.return_, 1) := by decide +kernel

theorem dX4_literal_0 : decode cX4_literal 0 = .ok (.aload_n 0, 1) := by decide +kernel
theorem dX4_literal_1 : decode cX4_literal 1 = .ok (.getfield 26, 3) := by decide +kernel
theorem dX4_literal_4 : decode cX4_literal 4 = .ok (.iconst 2, 1) := by decide +kernel
theorem dX4_literal_5 : decode cX4_literal 5 = .ok (.if_icmp .ne 30, 3) := by decide +kernel
theorem dX4_literal_8 : decode cX4_literal 8 = .ok (.aload_n 0, 1) := by decide +kernel
theorem dX4_literal_9 : decode cX4_literal 9 = .ok (.getfield 19, 3) := by decide +kernel
theorem dX4_literal_12 : decode cX4_literal 12 = .ok (.iload_n 1, 1) := by decide +kernel
theorem dX4_literal_13 : decode cX4_literal 13 = .ok (.bipush 30, 2) := by decide +kernel
theorem dX4_literal_15 : decode cX4_literal 15 = .ok (.aload_n 0, 1) := by decide +kernel
theorem dX4_literal_16 : decode cX4_literal 16 = .ok (.getfield 92, 3) := by decide +kernel
theorem dX4_literal_19 : decode cX4_literal 19 = .ok (.aload_n 0, 1) := by decide +kernel
theorem dX4_literal_20 : decode cX4_literal 20 = .ok (.getfield 110, 3) := by decide +kernel
theorem dX4_literal_23 : decode cX4_literal 23 = .ok (.invokevirtual 50, 3) := by decide +kernel
theorem dX4_literal_26 : decode cX4_literal 26 = .ok (.pop, 1) := by decide +kernel
theorem dX4_literal_27 : decode cX4_literal 27 = .ok (.aload_n 0, 1) := by decide +kernel
theorem dX4_literal_28 : decode cX4_literal 28 = .ok (.iconst 2, 1) := by decide +kernel
theorem dX4_literal_29 : decode cX4_literal 29 = .ok (.invokevirtual 39, 3) := by decide +kernel
theorem dX4_literal_32 : decode cX4_literal 32 = .ok (.goto 70, 3) := by decide +kernel
theorem dX4_literal_35 : decode cX4_literal 35 = .ok (.aload_n 0, 1) := by decide +kernel
theorem dX4_literal_36 : decode cX4_literal 36 = .ok (.getfield 26, 3) := by decide +kernel
theorem dX4_literal_39 : decode cX4_literal 39 = .ok (.sipush 291, 3) := by decide +kernel
theorem dX4_literal_42 : decode cX4_literal 42 = .ok (.if_icmp .eq 13, 3) := by decide +kernel
theorem dX4_literal_45 : decode cX4_literal 45 = .ok (.aload_n 0, 1) := by decide +kernel
theorem dX4_literal_46 : decode cX4_literal 46 = .ok (.getfield 26, 3) := by decide +kernel
theorem dX4_literal_49 : decode cX4_literal 49 = .ok (.sipush 292, 3) := by decide +kernel
theorem dX4_literal_52 : decode cX4_literal 52 = .ok (.if_icmp .ne 44, 3) := by decide +kernel
theorem dX4_literal_55 : decode cX4_literal 55 = .ok (.aload_n 0, 1) := by decide +kernel
theorem dX4_literal_56 : decode cX4_literal 56 = .ok (.getfield 19, 3) := by decide +kernel
theorem dX4_literal_59 : decode cX4_literal 59 = .ok (.iload_n 1, 1) := by decide +kernel
theorem dX4_literal_60 : decode cX4_literal 60 = .ok (.bipush 31, 2) := by decide +kernel
theorem dX4_literal_62 : decode cX4_literal 62 = .ok (.aload_n 0, 1) := by decide +kernel
theorem dX4_literal_63 : decode cX4_literal 63 = .ok (.getfield 92, 3) := by decide +kernel
theorem dX4_literal_66 : decode cX4_literal 66 = .ok (.aload_n 0, 1) := by decide +kernel
theorem dX4_literal_67 : decode cX4_literal 67 = .ok (.getfield 26, 3) := by decide +kernel
theorem dX4_literal_70 : decode cX4_literal 70 = .ok (.sipush 291, 3) := by decide +kernel
theorem dX4_literal_73 : decode cX4_literal 73 = .ok (.if_icmp .ne 7, 3) := by decide +kernel
theorem dX4_literal_76 : decode cX4_literal 76 = .ok (.iconst 1, 1) := by decide +kernel
theorem dX4_literal_77 : decode cX4_literal 77 = .ok (.goto 4, 3) := by decide +kernel
theorem dX4_literal_80 : decode cX4_literal 80 = .ok (.iconst 0, 1) := by decide +kernel
theorem dX4_literal_81 : decode cX4_literal 81 = .ok (.invokevirtual 50, 3) := by decide +kernel
theorem dX4_literal_84 : decode cX4_literal 84 = .ok (.pop, 1) := by decide +kernel
theorem dX4_literal_85 : decode cX4_literal 85 = .ok (.aload_n 0, 1) := by decide +kernel
theorem dX4_literal_86 : decode cX4_literal 86 = .ok (.aload_n 0, 1) := by decide +kernel
theorem dX4_literal_87 : decode cX4_literal 87 = .ok (.getfield 26, 3) := by decide +kernel
theorem dX4_literal_90 : decode cX4_literal 90 = .ok (.invokevirtual 39, 3) := by decide +kernel
theorem dX4_literal_93 : decode cX4_literal 93 = .ok (.goto 9, 3) := by decide +kernel
theorem dX4_literal_96 : decode cX4_literal 96 = .ok (.aload_n 0, 1) := by decide +kernel
theorem dX4_literal_97 : decode cX4_literal 97 = .ok (.bipush 6, 2) := by decide +kernel
theorem dX4_literal_99 : decode cX4_literal 99 = .ok (.putfield 26, 3) := by decide +kernel
theorem dX4_literal_102 : decode cX4_literal 102 = .ok (.return_, 1) := by decide +kernel

theorem dX4_nameNode_0 : decode cX4_nameNode 0 = .ok (.aload_n 0, 1) := by decide +kernel
theorem dX4_nameNode_1 : decode cX4_nameNode 1 = .ok (.getfield 19, 3) := by decide +kernel
theorem dX4_nameNode_4 : decode cX4_nameNode 4 = .ok (.iload_n 1, 1) := by decide +kernel
theorem dX4_nameNode_5 : decode cX4_nameNode 5 = .ok (.bipush 6, 2) := by decide +kernel
theorem dX4_nameNode_7 : decode cX4_nameNode 7 = .ok (.aload_n 0, 1) := by decide +kernel
theorem dX4_nameNode_8 : decode cX4_nameNode 8 = .ok (.getfield 92, 3) := by decide +kernel
theorem dX4_nameNode_11 : decode cX4_nameNode 11 = .ok (.aload_n 0, 1) := by decide +kernel
theorem dX4_nameNode_12 : decode cX4_nameNode 12 = .ok (.getfield 110, 3) := by decide +kernel
theorem dX4_nameNode_15 : decode cX4_nameNode 15 = .ok (.invokevirtual 50, 3) := by decide +kernel
theorem dX4_nameNode_18 : decode cX4_nameNode 18 = .ok (.pop, 1) := by decide +kernel
theorem dX4_nameNode_19 : decode cX4_nameNode 19 = .ok (.aload_n 0, 1) := by decide +kernel
theorem dX4_nameNode_20 : decode cX4_nameNode 20 = .ok (.iconst 1, 1) := by decide +kernel
theorem dX4_nameNode_21 : decode cX4_nameNode 21 = .ok (.invokevirtual 39, 3) := by decide +kernel
theorem dX4_nameNode_24 : decode cX4_nameNode 24 = .ok (.return_, 1) := by decide +kernel

theorem dX4_takeClosing_0 : decode cX4_takeClosing 0 = .ok (.aload_n 0, 1) := by decide +kernel
theorem dX4_takeClosing_1 : decode cX4_takeClosing 1 = .ok (.dup, 1) := by decide +kernel
theorem dX4_takeClosing_2 : decode cX4_takeClosing 2 = .ok (.getfield 32, 3) := by decide +kernel
theorem dX4_takeClosing_5 : decode cX4_takeClosing 5 = .ok (.iconst 1, 1) := by decide +kernel
theorem dX4_takeClosing_6 : decode cX4_takeClosing 6 = .ok (.isub, 1) := by decide +kernel
theorem dX4_takeClosing_7 : decode cX4_takeClosing 7 = .ok (.putfield 32, 3) := by decide +kernel
theorem dX4_takeClosing_10 : decode cX4_takeClosing 10 = .ok (.aload_n 0, 1) := by decide +kernel
theorem dX4_takeClosing_11 : decode cX4_takeClosing 11 = .ok (.iload_n 1, 1) := by decide +kernel
theorem dX4_takeClosing_12 : decode cX4_takeClosing 12 = .ok (.invokevirtual 39, 3) := by decide +kernel
theorem dX4_takeClosing_15 : decode cX4_takeClosing 15 = .ok (.return_, 1) := by decide +kernel

theorem dX4_takeComma_0 : decode cX4_takeComma 0 = .ok (.aload_n 0, 1) := by decide +kernel
theorem dX4_takeComma_1 : decode cX4_takeComma 1 = .ok (.getfield 26, 3) := by decide +kernel
theorem dX4_takeComma_4 : decode cX4_takeComma 4 = .ok (.bipush 44, 2) := by decide +kernel
theorem dX4_takeComma_6 : decode cX4_takeComma 6 = .ok (.if_icmp .eq 5, 3) := by decide +kernel
theorem dX4_takeComma_9 : decode cX4_takeComma 9 = .ok (.iconst 0, 1) := by decide +kernel
theorem dX4_takeComma_10 : decode cX4_takeComma 10 = .ok (.ireturn, 1) := by decide +kernel
theorem dX4_takeComma_11 : decode cX4_takeComma 11 = .ok (.aload_n 0, 1) := by decide +kernel
theorem dX4_takeComma_12 : decode cX4_takeComma 12 = .ok (.bipush 44, 2) := by decide +kernel
theorem dX4_takeComma_14 : decode cX4_takeComma 14 = .ok (.invokevirtual 39, 3) := by decide +kernel
theorem dX4_takeComma_17 : decode cX4_takeComma 17 = .ok (.iconst 1, 1) := by decide +kernel
theorem dX4_takeComma_18 : decode cX4_takeComma 18 = .ok (.ireturn, 1) := by decide +kernel

theorem dX4_takeOpening_0 : decode cX4_takeOpening 0 = .ok (.aload_n 0, 1) := by decide +kernel
theorem dX4_takeOpening_1 : decode cX4_takeOpening 1 = .ok (.invokevirtual 112, 3) := by decide +kernel
theorem dX4_takeOpening_4 : decode cX4_takeOpening 4 = .ok (.ifCond .eq 21, 3) := by decide +kernel
theorem dX4_takeOpening_7 : decode cX4_takeOpening 7 = .ok (.aload_n 0, 1) := by decide +kernel
theorem dX4_takeOpening_8 : decode cX4_takeOpening 8 = .ok (.dup, 1) := by decide +kernel
theorem dX4_takeOpening_9 : decode cX4_takeOpening 9 = .ok (.getfield 32, 3) := by decide +kernel
theorem dX4_takeOpening_12 : decode cX4_takeOpening 12 = .ok (.iconst 1, 1) := by decide +kernel
theorem dX4_takeOpening_13 : decode cX4_takeOpening 13 = .ok (.iadd, 1) := by decide +kernel
theorem dX4_takeOpening_14 : decode cX4_takeOpening 14 = .ok (.putfield 32, 3) := by decide +kernel
theorem dX4_takeOpening_17 : decode cX4_takeOpening 17 = .ok (.aload_n 0, 1) := by decide +kernel
theorem dX4_takeOpening_18 : decode cX4_takeOpening 18 = .ok (.aload_n 0, 1) := by decide +kernel
theorem dX4_takeOpening_19 : decode cX4_takeOpening 19 = .ok (.getfield 26, 3) := by decide +kernel
theorem dX4_takeOpening_22 : decode cX4_takeOpening 22 = .ok (.invokevirtual 39, 3) := by decide +kernel
theorem dX4_takeOpening_25 : decode cX4_takeOpening 25 = .ok (.return_, 1) := by decide +kernel

theorem dX4_operandByName_0 : decode cX4_operandByName 0 = .ok (.aload_n 0, 1) := by decide +kernel
theorem dX4_operandByName_1 : decode cX4_operandByName 1 = .ok (.getfield 92, 3) := by decide +kernel
theorem dX4_operandByName_4 : decode cX4_operandByName 4 = .ok (.istore_n 2, 1) := by decide +kernel
theorem dX4_operandByName_5 : decode cX4_operandByName 5 = .ok (.aload_n 0, 1) := by decide +kernel
theorem dX4_operandByName_6 : decode cX4_operandByName 6 = .ok (.invokevirtual 118, 3) := by decide +kernel
theorem dX4_operandByName_9 : decode cX4_operandByName 9 = .ok (.istore_n 3, 1) := by decide +kernel
theorem dX4_operandByName_10 : decode cX4_operandByName 10 = .ok (.aload_n 0, 1) := by decide +kernel
theorem dX4_operandByName_11 : decode cX4_operandByName 11 = .ok (.getfield 26, 3) := by decide +kernel
theorem dX4_operandByName_14 : decode cX4_operandByName 14 = .ok (.lookupswitch 171 #[(40, 93), (46, 68), (91, 34)], 34) := by decide +kernel
theorem dX4_operandByName_48 : decode cX4_operandByName 48 = .ok (.aload_n 0, 1) := by decide +kernel
theorem dX4_operandByName_49 : decode cX4_operandByName 49 = .ok (.getfield 19, 3) := by decide +kernel
theorem dX4_operandByName_52 : decode cX4_operandByName 52 = .ok (.iload_n 1, 1) := by decide +kernel
theorem dX4_operandByName_53 : decode cX4_operandByName 53 = .ok (.bipush 32, 2) := by decide +kernel
theorem dX4_operandByName_55 : decode cX4_operandByName 55 = .ok (.iload_n 2, 1) := by decide +kernel
theorem dX4_operandByName_56 : decode cX4_operandByName 56 = .ok (.iload_n 3, 1) := by decide +kernel
theorem dX4_operandByName_57 : decode cX4_operandByName 57 = .ok (.invokevirtual 50, 3) := by decide +kernel
theorem dX4_operandByName_60 : decode cX4_operandByName 60 = .ok (.istore 4, 2) := by decide +kernel
theorem dX4_operandByName_62 : decode cX4_operandByName 62 = .ok (.aload_n 0, 1) := by decide +kernel
theorem dX4_operandByName_63 : decode cX4_operandByName 63 = .ok (.invokevirtual 166, 3) := by decide +kernel
theorem dX4_operandByName_66 : decode cX4_operandByName 66 = .ok (.aload_n 0, 1) := by decide +kernel
theorem dX4_operandByName_67 : decode cX4_operandByName 67 = .ok (.iload 4, 2) := by decide +kernel
theorem dX4_operandByName_69 : decode cX4_operandByName 69 = .ok (.iconst 0, 1) := by decide +kernel
theorem dX4_operandByName_70 : decode cX4_operandByName 70 = .ok (.invokevirtual 188, 3) := by decide +kernel
theorem dX4_operandByName_73 : decode cX4_operandByName 73 = .ok (.aload_n 0, 1) := by decide +kernel
theorem dX4_operandByName_74 : decode cX4_operandByName 74 = .ok (.bipush 93, 2) := by decide +kernel
theorem dX4_operandByName_76 : decode cX4_operandByName 76 = .ok (.invokevirtual 172, 3) := by decide +kernel
theorem dX4_operandByName_79 : decode cX4_operandByName 79 = .ok (.goto 119, 3) := by decide +kernel
theorem dX4_operandByName_82 : decode cX4_operandByName 82 = .ok (.aload_n 0, 1) := by decide +kernel
theorem dX4_operandByName_83 : decode cX4_operandByName 83 = .ok (.bipush 46, 2) := by decide +kernel
theorem dX4_operandByName_85 : decode cX4_operandByName 85 = .ok (.invokevirtual 39, 3) := by decide +kernel
theorem dX4_operandByName_88 : decode cX4_operandByName 88 = .ok (.aload_n 0, 1) := by decide +kernel
theorem dX4_operandByName_89 : decode cX4_operandByName 89 = .ok (.aload_n 0, 1) := by decide +kernel
theorem dX4_operandByName_90 : decode cX4_operandByName 90 = .ok (.getfield 19, 3) := by decide +kernel
theorem dX4_operandByName_93 : decode cX4_operandByName 93 = .ok (.iload_n 1, 1) := by decide +kernel
theorem dX4_operandByName_94 : decode cX4_operandByName 94 = .ok (.bipush 33, 2) := by decide +kernel
theorem dX4_operandByName_96 : decode cX4_operandByName 96 = .ok (.iload_n 2, 1) := by decide +kernel
theorem dX4_operandByName_97 : decode cX4_operandByName 97 = .ok (.iload_n 3, 1) := by decide +kernel
theorem dX4_operandByName_98 : decode cX4_operandByName 98 = .ok (.invokevirtual 50, 3) := by decide +kernel
theorem dX4_operandByName_101 : decode cX4_operandByName 101 = .ok (.invokevirtual 131, 3) := by decide +kernel
theorem dX4_operandByName_104 : decode cX4_operandByName 104 = .ok (.goto 94, 3) := by decide +kernel
theorem dX4_operandByName_107 : decode cX4_operandByName 107 = .ok (.aload_n 0, 1) := by decide +kernel
theorem dX4_operandByName_108 : decode cX4_operandByName 108 = .ok (.getfield 19, 3) := by decide +kernel
theorem dX4_operandByName_111 : decode cX4_operandByName 111 = .ok (.iload_n 1, 1) := by decide +kernel
theorem dX4_operandByName_112 : decode cX4_operandByName 112 = .ok (.bipush 34, 2) := by decide +kernel
theorem dX4_operandByName_114 : decode cX4_operandByName 114 = .ok (.iload_n 2, 1) := by decide +kernel
theorem dX4_operandByName_115 : decode cX4_operandByName 115 = .ok (.iload_n 3, 1) := by decide +kernel
theorem dX4_operandByName_116 : decode cX4_operandByName 116 = .ok (.invokevirtual 50, 3) := by decide +kernel
theorem dX4_operandByName_119 : decode cX4_operandByName 119 = .ok (.istore 5, 2) := by decide +kernel
theorem dX4_operandByName_121 : decode cX4_operandByName 121 = .ok (.aload_n 0, 1) := by decide +kernel
theorem dX4_operandByName_122 : decode cX4_operandByName 122 = .ok (.invokevirtual 166, 3) := by decide +kernel
theorem dX4_operandByName_125 : decode cX4_operandByName 125 = .ok (.aload_n 0, 1) := by decide +kernel
theorem dX4_operandByName_126 : decode cX4_operandByName 126 = .ok (.getfield 26, 3) := by decide +kernel
theorem dX4_operandByName_129 : decode cX4_operandByName 129 = .ok (.bipush 41, 2) := by decide +kernel
theorem dX4_operandByName_131 : decode cX4_operandByName 131 = .ok (.if_icmp .eq 7, 3) := by decide +kernel
theorem dX4_operandByName_134 : decode cX4_operandByName 134 = .ok (.iconst 1, 1) := by decide +kernel
theorem dX4_operandByName_135 : decode cX4_operandByName 135 = .ok (.goto 4, 3) := by decide +kernel
theorem dX4_operandByName_138 : decode cX4_operandByName 138 = .ok (.iconst 0, 1) := by decide +kernel
theorem dX4_operandByName_139 : decode cX4_operandByName 139 = .ok (.istore 6, 2) := by decide +kernel
theorem dX4_operandByName_141 : decode cX4_operandByName 141 = .ok (.iconst 0, 1) := by decide +kernel
theorem dX4_operandByName_142 : decode cX4_operandByName 142 = .ok (.istore 7, 2) := by decide +kernel
theorem dX4_operandByName_144 : decode cX4_operandByName 144 = .ok (.iload 6, 2) := by decide +kernel
theorem dX4_operandByName_146 : decode cX4_operandByName 146 = .ok (.ifCond .eq 30, 3) := by decide +kernel
theorem dX4_operandByName_149 : decode cX4_operandByName 149 = .ok (.iload 7, 2) := by decide +kernel
theorem dX4_operandByName_151 : decode cX4_operandByName 151 = .ok (.sipush 8192, 3) := by decide +kernel
theorem dX4_operandByName_154 : decode cX4_operandByName 154 = .ok (.if_icmp .ge 22, 3) := by decide +kernel
theorem dX4_operandByName_157 : decode cX4_operandByName 157 = .ok (.aload_n 0, 1) := by decide +kernel
theorem dX4_operandByName_158 : decode cX4_operandByName 158 = .ok (.iload 5, 2) := by decide +kernel
theorem dX4_operandByName_160 : decode cX4_operandByName 160 = .ok (.iconst 0, 1) := by decide +kernel
theorem dX4_operandByName_161 : decode cX4_operandByName 161 = .ok (.invokevirtual 188, 3) := by decide +kernel
theorem dX4_operandByName_164 : decode cX4_operandByName 164 = .ok (.aload_n 0, 1) := by decide +kernel
theorem dX4_operandByName_165 : decode cX4_operandByName 165 = .ok (.invokevirtual 179, 3) := by decide +kernel
theorem dX4_operandByName_168 : decode cX4_operandByName 168 = .ok (.istore 6, 2) := by decide +kernel
theorem dX4_operandByName_170 : decode cX4_operandByName 170 = .ok (.iinc 7 1, 3) := by decide +kernel
theorem dX4_operandByName_173 : decode cX4_operandByName 173 = .ok (.goto (-29), 3) := by decide +kernel
theorem dX4_operandByName_176 : decode cX4_operandByName 176 = .ok (.aload_n 0, 1) := by decide +kernel
theorem dX4_operandByName_177 : decode cX4_operandByName 177 = .ok (.bipush 41, 2) := by decide +kernel
theorem dX4_operandByName_179 : decode cX4_operandByName 179 = .ok (.invokevirtual 172, 3) := by decide +kernel
theorem dX4_operandByName_182 : decode cX4_operandByName 182 = .ok (.goto 16, 3) := by decide +kernel
theorem dX4_operandByName_185 : decode cX4_operandByName 185 = .ok (.aload_n 0, 1) := by decide +kernel
theorem dX4_operandByName_186 : decode cX4_operandByName 186 = .ok (.getfield 19, 3) := by decide +kernel
theorem dX4_operandByName_189 : decode cX4_operandByName 189 = .ok (.iload_n 1, 1) := by decide +kernel
theorem dX4_operandByName_190 : decode cX4_operandByName 190 = .ok (.bipush 6, 2) := by decide +kernel
theorem dX4_operandByName_192 : decode cX4_operandByName 192 = .ok (.iload_n 2, 1) := by decide +kernel
theorem dX4_operandByName_193 : decode cX4_operandByName 193 = .ok (.iload_n 3, 1) := by decide +kernel
theorem dX4_operandByName_194 : decode cX4_operandByName 194 = .ok (.invokevirtual 50, 3) := by decide +kernel
theorem dX4_operandByName_197 : decode cX4_operandByName 197 = .ok (.pop, 1) := by decide +kernel
theorem dX4_operandByName_198 : decode cX4_operandByName 198 = .ok (.return_, 1) := by decide +kernel

theorem dX4_operand_0 : decode cX4_operand 0 = .ok (.aload_n 0, 1) := by decide +kernel
theorem dX4_operand_1 : decode cX4_operand 1 = .ok (.getfield 26, 3) := by decide +kernel
theorem dX4_operand_4 : decode cX4_operand 4 = .ok (.lookupswitch 123 #[(1, 115), (40, 96), (45, 44), (290, 44)], 44) := by decide +kernel
theorem dX4_operand_48 : decode cX4_operand 48 = .ok (.aload_n 0, 1) := by decide +kernel
theorem dX4_operand_49 : decode cX4_operand 49 = .ok (.getfield 19, 3) := by decide +kernel
theorem dX4_operand_52 : decode cX4_operand 52 = .ok (.iload_n 1, 1) := by decide +kernel
theorem dX4_operand_53 : decode cX4_operand 53 = .ok (.bipush 36, 2) := by decide +kernel
theorem dX4_operand_55 : decode cX4_operand 55 = .ok (.aload_n 0, 1) := by decide +kernel
theorem dX4_operand_56 : decode cX4_operand 56 = .ok (.getfield 92, 3) := by decide +kernel
theorem dX4_operand_59 : decode cX4_operand 59 = .ok (.aload_n 0, 1) := by decide +kernel
theorem dX4_operand_60 : decode cX4_operand 60 = .ok (.getfield 26, 3) := by decide +kernel
theorem dX4_operand_63 : decode cX4_operand 63 = .ok (.sipush 290, 3) := by decide +kernel
theorem dX4_operand_66 : decode cX4_operand 66 = .ok (.if_icmp .ne 7, 3) := by decide +kernel
theorem dX4_operand_69 : decode cX4_operand 69 = .ok (.iconst 1, 1) := by decide +kernel
theorem dX4_operand_70 : decode cX4_operand 70 = .ok (.goto 4, 3) := by decide +kernel
theorem dX4_operand_73 : decode cX4_operand 73 = .ok (.iconst 0, 1) := by decide +kernel
theorem dX4_operand_74 : decode cX4_operand 74 = .ok (.invokevirtual 50, 3) := by decide +kernel
theorem dX4_operand_77 : decode cX4_operand 77 = .ok (.istore_n 2, 1) := by decide +kernel
theorem dX4_operand_78 : decode cX4_operand 78 = .ok (.aload_n 0, 1) := by decide +kernel
theorem dX4_operand_79 : decode cX4_operand 79 = .ok (.invokevirtual 166, 3) := by decide +kernel
theorem dX4_operand_82 : decode cX4_operand 82 = .ok (.aload_n 0, 1) := by decide +kernel
theorem dX4_operand_83 : decode cX4_operand 83 = .ok (.iload_n 2, 1) := by decide +kernel
theorem dX4_operand_84 : decode cX4_operand 84 = .ok (.invokevirtual 192, 3) := by decide +kernel
theorem dX4_operand_87 : decode cX4_operand 87 = .ok (.aload_n 0, 1) := by decide +kernel
theorem dX4_operand_88 : decode cX4_operand 88 = .ok (.dup, 1) := by decide +kernel
theorem dX4_operand_89 : decode cX4_operand 89 = .ok (.getfield 32, 3) := by decide +kernel
theorem dX4_operand_92 : decode cX4_operand 92 = .ok (.iconst 1, 1) := by decide +kernel
theorem dX4_operand_93 : decode cX4_operand 93 = .ok (.isub, 1) := by decide +kernel
theorem dX4_operand_94 : decode cX4_operand 94 = .ok (.putfield 32, 3) := by decide +kernel
theorem dX4_operand_97 : decode cX4_operand 97 = .ok (.goto 35, 3) := by decide +kernel
theorem dX4_operand_100 : decode cX4_operand 100 = .ok (.aload_n 0, 1) := by decide +kernel
theorem dX4_operand_101 : decode cX4_operand 101 = .ok (.invokevirtual 166, 3) := by decide +kernel
theorem dX4_operand_104 : decode cX4_operand 104 = .ok (.aload_n 0, 1) := by decide +kernel
theorem dX4_operand_105 : decode cX4_operand 105 = .ok (.iload_n 1, 1) := by decide +kernel
theorem dX4_operand_106 : decode cX4_operand 106 = .ok (.iconst 0, 1) := by decide +kernel
theorem dX4_operand_107 : decode cX4_operand 107 = .ok (.invokevirtual 188, 3) := by decide +kernel
theorem dX4_operand_110 : decode cX4_operand 110 = .ok (.aload_n 0, 1) := by decide +kernel
theorem dX4_operand_111 : decode cX4_operand 111 = .ok (.bipush 41, 2) := by decide +kernel
theorem dX4_operand_113 : decode cX4_operand 113 = .ok (.invokevirtual 172, 3) := by decide +kernel
theorem dX4_operand_116 : decode cX4_operand 116 = .ok (.goto 16, 3) := by decide +kernel
theorem dX4_operand_119 : decode cX4_operand 119 = .ok (.aload_n 0, 1) := by decide +kernel
theorem dX4_operand_120 : decode cX4_operand 120 = .ok (.iload_n 1, 1) := by decide +kernel
theorem dX4_operand_121 : decode cX4_operand 121 = .ok (.invokevirtual 201, 3) := by decide +kernel
theorem dX4_operand_124 : decode cX4_operand 124 = .ok (.goto 8, 3) := by decide +kernel
theorem dX4_operand_127 : decode cX4_operand 127 = .ok (.aload_n 0, 1) := by decide +kernel
theorem dX4_operand_128 : decode cX4_operand 128 = .ok (.iload_n 1, 1) := by decide +kernel
theorem dX4_operand_129 : decode cX4_operand 129 = .ok (.invokevirtual 142, 3) := by decide +kernel
theorem dX4_operand_132 : decode cX4_operand 132 = .ok (.return_, 1) := by decide +kernel

theorem dX4_outermostExpression_0 : decode cX4_outermostExpression 0 = .ok (.aload_n 0, 1) := by decide +kernel
theorem dX4_outermostExpression_1 : decode cX4_outermostExpression 1 = .ok (.iload_n 1, 1) := by decide +kernel
theorem dX4_outermostExpression_2 : decode cX4_outermostExpression 2 = .ok (.iconst 0, 1) := by decide +kernel
theorem dX4_outermostExpression_3 : decode cX4_outermostExpression 3 = .ok (.invokevirtual 188, 3) := by decide +kernel
theorem dX4_outermostExpression_6 : decode cX4_outermostExpression 6 = .ok (.aload_n 0, 1) := by decide +kernel
theorem dX4_outermostExpression_7 : decode cX4_outermostExpression 7 = .ok (.iconst 0, 1) := by decide +kernel
theorem dX4_outermostExpression_8 : decode cX4_outermostExpression 8 = .ok (.putfield 29, 3) := by decide +kernel
theorem dX4_outermostExpression_11 : decode cX4_outermostExpression 11 = .ok (.return_, 1) := by decide +kernel

theorem dX4_assignment_0 : decode cX4_assignment 0 = .ok (.aload_n 0, 1) := by decide +kernel
theorem dX4_assignment_1 : decode cX4_assignment 1 = .ok (.getfield 19, 3) := by decide +kernel
theorem dX4_assignment_4 : decode cX4_assignment 4 = .ok (.getfield 165, 3) := by decide +kernel
theorem dX4_assignment_7 : decode cX4_assignment 7 = .ok (.istore 4, 2) := by decide +kernel
theorem dX4_assignment_9 : decode cX4_assignment 9 = .ok (.aload_n 0, 1) := by decide +kernel
theorem dX4_assignment_10 : decode cX4_assignment 10 = .ok (.getfield 26, 3) := by decide +kernel
theorem dX4_assignment_13 : decode cX4_assignment 13 = .ok (.bipush 91, 2) := by decide +kernel
theorem dX4_assignment_15 : decode cX4_assignment 15 = .ok (.if_icmp .ne 36, 3) := by decide +kernel
theorem dX4_assignment_18 : decode cX4_assignment 18 = .ok (.aload_n 0, 1) := by decide +kernel
theorem dX4_assignment_19 : decode cX4_assignment 19 = .ok (.getfield 19, 3) := by decide +kernel
theorem dX4_assignment_22 : decode cX4_assignment 22 = .ok (.iload_n 1, 1) := by decide +kernel
theorem dX4_assignment_23 : decode cX4_assignment 23 = .ok (.bipush 32, 2) := by decide +kernel
theorem dX4_assignment_25 : decode cX4_assignment 25 = .ok (.iload_n 2, 1) := by decide +kernel
theorem dX4_assignment_26 : decode cX4_assignment 26 = .ok (.iload_n 3, 1) := by decide +kernel
theorem dX4_assignment_27 : decode cX4_assignment 27 = .ok (.invokevirtual 50, 3) := by decide +kernel
theorem dX4_assignment_30 : decode cX4_assignment 30 = .ok (.istore 5, 2) := by decide +kernel
theorem dX4_assignment_32 : decode cX4_assignment 32 = .ok (.aload_n 0, 1) := by decide +kernel
theorem dX4_assignment_33 : decode cX4_assignment 33 = .ok (.invokevirtual 166, 3) := by decide +kernel
theorem dX4_assignment_36 : decode cX4_assignment 36 = .ok (.aload_n 0, 1) := by decide +kernel
theorem dX4_assignment_37 : decode cX4_assignment 37 = .ok (.iload 5, 2) := by decide +kernel
theorem dX4_assignment_39 : decode cX4_assignment 39 = .ok (.invokevirtual 169, 3) := by decide +kernel
theorem dX4_assignment_42 : decode cX4_assignment 42 = .ok (.aload_n 0, 1) := by decide +kernel
theorem dX4_assignment_43 : decode cX4_assignment 43 = .ok (.bipush 93, 2) := by decide +kernel
theorem dX4_assignment_45 : decode cX4_assignment 45 = .ok (.invokevirtual 172, 3) := by decide +kernel
theorem dX4_assignment_48 : decode cX4_assignment 48 = .ok (.goto 16, 3) := by decide +kernel
theorem dX4_assignment_51 : decode cX4_assignment 51 = .ok (.aload_n 0, 1) := by decide +kernel
theorem dX4_assignment_52 : decode cX4_assignment 52 = .ok (.getfield 19, 3) := by decide +kernel
theorem dX4_assignment_55 : decode cX4_assignment 55 = .ok (.iload_n 1, 1) := by decide +kernel
theorem dX4_assignment_56 : decode cX4_assignment 56 = .ok (.bipush 6, 2) := by decide +kernel
theorem dX4_assignment_58 : decode cX4_assignment 58 = .ok (.iload_n 2, 1) := by decide +kernel
theorem dX4_assignment_59 : decode cX4_assignment 59 = .ok (.iload_n 3, 1) := by decide +kernel
theorem dX4_assignment_60 : decode cX4_assignment 60 = .ok (.invokevirtual 50, 3) := by decide +kernel
theorem dX4_assignment_63 : decode cX4_assignment 63 = .ok (.pop, 1) := by decide +kernel
theorem dX4_assignment_64 : decode cX4_assignment 64 = .ok (.aload_n 0, 1) := by decide +kernel
theorem dX4_assignment_65 : decode cX4_assignment 65 = .ok (.getfield 19, 3) := by decide +kernel
theorem dX4_assignment_68 : decode cX4_assignment 68 = .ok (.iload 4, 2) := by decide +kernel
theorem dX4_assignment_70 : decode cX4_assignment 70 = .ok (.bipush 12, 2) := by decide +kernel
theorem dX4_assignment_72 : decode cX4_assignment 72 = .ok (.aload_n 0, 1) := by decide +kernel
theorem dX4_assignment_73 : decode cX4_assignment 73 = .ok (.getfield 92, 3) := by decide +kernel
theorem dX4_assignment_76 : decode cX4_assignment 76 = .ok (.iconst 0, 1) := by decide +kernel
theorem dX4_assignment_77 : decode cX4_assignment 77 = .ok (.invokevirtual 175, 3) := by decide +kernel
theorem dX4_assignment_80 : decode cX4_assignment 80 = .ok (.aload_n 0, 1) := by decide +kernel
theorem dX4_assignment_81 : decode cX4_assignment 81 = .ok (.sipush 14909, 3) := by decide +kernel
theorem dX4_assignment_84 : decode cX4_assignment 84 = .ok (.invokevirtual 39, 3) := by decide +kernel
theorem dX4_assignment_87 : decode cX4_assignment 87 = .ok (.aload_n 0, 1) := by decide +kernel
theorem dX4_assignment_88 : decode cX4_assignment 88 = .ok (.iload 4, 2) := by decide +kernel
theorem dX4_assignment_90 : decode cX4_assignment 90 = .ok (.invokevirtual 169, 3) := by decide +kernel
theorem dX4_assignment_93 : decode cX4_assignment 93 = .ok (.return_, 1) := by decide +kernel

theorem dX4_constant_0 : decode cX4_constant 0 = .ok (.aload_n 0, 1) := by decide +kernel
theorem dX4_constant_1 : decode cX4_constant 1 = .ok (.getfield 26, 3) := by decide +kernel
theorem dX4_constant_4 : decode cX4_constant 4 = .ok (.bipush 45, 2) := by decide +kernel
theorem dX4_constant_6 : decode cX4_constant 6 = .ok (.if_icmp .ne 39, 3) := by decide +kernel
theorem dX4_constant_9 : decode cX4_constant 9 = .ok (.aload_n 0, 1) := by decide +kernel
theorem dX4_constant_10 : decode cX4_constant 10 = .ok (.getfield 92, 3) := by decide +kernel
theorem dX4_constant_13 : decode cX4_constant 13 = .ok (.istore_n 2, 1) := by decide +kernel
theorem dX4_constant_14 : decode cX4_constant 14 = .ok (.aload_n 0, 1) := by decide +kernel
theorem dX4_constant_15 : decode cX4_constant 15 = .ok (.bipush 45, 2) := by decide +kernel
theorem dX4_constant_17 : decode cX4_constant 17 = .ok (.invokevirtual 39, 3) := by decide +kernel
theorem dX4_constant_20 : decode cX4_constant 20 = .ok (.aload_n 0, 1) := by decide +kernel
theorem dX4_constant_21 : decode cX4_constant 21 = .ok (.getfield 19, 3) := by decide +kernel
theorem dX4_constant_24 : decode cX4_constant 24 = .ok (.iload_n 1, 1) := by decide +kernel
theorem dX4_constant_25 : decode cX4_constant 25 = .ok (.bipush 30, 2) := by decide +kernel
theorem dX4_constant_27 : decode cX4_constant 27 = .ok (.iload_n 2, 1) := by decide +kernel
theorem dX4_constant_28 : decode cX4_constant 28 = .ok (.aload_n 0, 1) := by decide +kernel
theorem dX4_constant_29 : decode cX4_constant 29 = .ok (.getfield 110, 3) := by decide +kernel
theorem dX4_constant_32 : decode cX4_constant 32 = .ok (.ineg, 1) := by decide +kernel
theorem dX4_constant_33 : decode cX4_constant 33 = .ok (.invokevirtual 50, 3) := by decide +kernel
theorem dX4_constant_36 : decode cX4_constant 36 = .ok (.pop, 1) := by decide +kernel
theorem dX4_constant_37 : decode cX4_constant 37 = .ok (.aload_n 0, 1) := by decide +kernel
theorem dX4_constant_38 : decode cX4_constant 38 = .ok (.iconst 2, 1) := by decide +kernel
theorem dX4_constant_39 : decode cX4_constant 39 = .ok (.invokevirtual 39, 3) := by decide +kernel
theorem dX4_constant_42 : decode cX4_constant 42 = .ok (.goto 8, 3) := by decide +kernel
theorem dX4_constant_45 : decode cX4_constant 45 = .ok (.aload_n 0, 1) := by decide +kernel
theorem dX4_constant_46 : decode cX4_constant 46 = .ok (.iload_n 1, 1) := by decide +kernel
theorem dX4_constant_47 : decode cX4_constant 47 = .ok (.invokevirtual 142, 3) := by decide +kernel
theorem dX4_constant_50 : decode cX4_constant 50 = .ok (.return_, 1) := by decide +kernel

theorem dX4_ranges_0 : decode cX4_ranges 0 = .ok (.iconst 1, 1) := by decide +kernel
theorem dX4_ranges_1 : decode cX4_ranges 1 = .ok (.istore_n 2, 1) := by decide +kernel
theorem dX4_ranges_2 : decode cX4_ranges 2 = .ok (.iconst 0, 1) := by decide +kernel
theorem dX4_ranges_3 : decode cX4_ranges 3 = .ok (.istore_n 3, 1) := by decide +kernel
theorem dX4_ranges_4 : decode cX4_ranges 4 = .ok (.iload_n 2, 1) := by decide +kernel
theorem dX4_ranges_5 : decode cX4_ranges 5 = .ok (.ifCond .eq 67, 3) := by decide +kernel
theorem dX4_ranges_8 : decode cX4_ranges 8 = .ok (.iload_n 3, 1) := by decide +kernel
theorem dX4_ranges_9 : decode cX4_ranges 9 = .ok (.sipush 8192, 3) := by decide +kernel
theorem dX4_ranges_12 : decode cX4_ranges 12 = .ok (.if_icmp .ge 60, 3) := by decide +kernel
theorem dX4_ranges_15 : decode cX4_ranges 15 = .ok (.aload_n 0, 1) := by decide +kernel
theorem dX4_ranges_16 : decode cX4_ranges 16 = .ok (.getfield 19, 3) := by decide +kernel
theorem dX4_ranges_19 : decode cX4_ranges 19 = .ok (.iload_n 1, 1) := by decide +kernel
theorem dX4_ranges_20 : decode cX4_ranges 20 = .ok (.bipush 18, 2) := by decide +kernel
theorem dX4_ranges_22 : decode cX4_ranges 22 = .ok (.aload_n 0, 1) := by decide +kernel
theorem dX4_ranges_23 : decode cX4_ranges 23 = .ok (.getfield 92, 3) := by decide +kernel
theorem dX4_ranges_26 : decode cX4_ranges 26 = .ok (.iconst 0, 1) := by decide +kernel
theorem dX4_ranges_27 : decode cX4_ranges 27 = .ok (.invokevirtual 50, 3) := by decide +kernel
theorem dX4_ranges_30 : decode cX4_ranges 30 = .ok (.istore 4, 2) := by decide +kernel
theorem dX4_ranges_32 : decode cX4_ranges 32 = .ok (.aload_n 0, 1) := by decide +kernel
theorem dX4_ranges_33 : decode cX4_ranges 33 = .ok (.iload 4, 2) := by decide +kernel
theorem dX4_ranges_35 : decode cX4_ranges 35 = .ok (.invokevirtual 139, 3) := by decide +kernel
theorem dX4_ranges_38 : decode cX4_ranges 38 = .ok (.aload_n 0, 1) := by decide +kernel
theorem dX4_ranges_39 : decode cX4_ranges 39 = .ok (.getfield 26, 3) := by decide +kernel
theorem dX4_ranges_42 : decode cX4_ranges 42 = .ok (.sipush 11822, 3) := by decide +kernel
theorem dX4_ranges_45 : decode cX4_ranges 45 = .ok (.if_icmp .ne 16, 3) := by decide +kernel
theorem dX4_ranges_48 : decode cX4_ranges 48 = .ok (.aload_n 0, 1) := by decide +kernel
theorem dX4_ranges_49 : decode cX4_ranges 49 = .ok (.sipush 11822, 3) := by decide +kernel
theorem dX4_ranges_52 : decode cX4_ranges 52 = .ok (.invokevirtual 39, 3) := by decide +kernel
theorem dX4_ranges_55 : decode cX4_ranges 55 = .ok (.aload_n 0, 1) := by decide +kernel
theorem dX4_ranges_56 : decode cX4_ranges 56 = .ok (.iload 4, 2) := by decide +kernel
theorem dX4_ranges_58 : decode cX4_ranges 58 = .ok (.invokevirtual 139, 3) := by decide +kernel
theorem dX4_ranges_61 : decode cX4_ranges 61 = .ok (.aload_n 0, 1) := by decide +kernel
theorem dX4_ranges_62 : decode cX4_ranges 62 = .ok (.invokevirtual 179, 3) := by decide +kernel
theorem dX4_ranges_65 : decode cX4_ranges 65 = .ok (.istore_n 2, 1) := by decide +kernel
theorem dX4_ranges_66 : decode cX4_ranges 66 = .ok (.iinc 3 1, 3) := by decide +kernel
theorem dX4_ranges_69 : decode cX4_ranges 69 = .ok (.goto (-65), 3) := by decide +kernel
theorem dX4_ranges_72 : decode cX4_ranges 72 = .ok (.return_, 1) := by decide +kernel

theorem dX4_startsConstant_0 : decode cX4_startsConstant 0 = .ok (.aload_n 0, 1) := by decide +kernel
theorem dX4_startsConstant_1 : decode cX4_startsConstant 1 = .ok (.getfield 26, 3) := by decide +kernel
theorem dX4_startsConstant_4 : decode cX4_startsConstant 4 = .ok (.bipush 45, 2) := by decide +kernel
theorem dX4_startsConstant_6 : decode cX4_startsConstant 6 = .ok (.if_icmp .eq 31, 3) := by decide +kernel
theorem dX4_startsConstant_9 : decode cX4_startsConstant 9 = .ok (.aload_n 0, 1) := by decide +kernel
theorem dX4_startsConstant_10 : decode cX4_startsConstant 10 = .ok (.getfield 26, 3) := by decide +kernel
theorem dX4_startsConstant_13 : decode cX4_startsConstant 13 = .ok (.iconst 2, 1) := by decide +kernel
theorem dX4_startsConstant_14 : decode cX4_startsConstant 14 = .ok (.if_icmp .eq 23, 3) := by decide +kernel
theorem dX4_startsConstant_17 : decode cX4_startsConstant 17 = .ok (.aload_n 0, 1) := by decide +kernel
theorem dX4_startsConstant_18 : decode cX4_startsConstant 18 = .ok (.getfield 26, 3) := by decide +kernel
theorem dX4_startsConstant_21 : decode cX4_startsConstant 21 = .ok (.sipush 291, 3) := by decide +kernel
theorem dX4_startsConstant_24 : decode cX4_startsConstant 24 = .ok (.if_icmp .eq 13, 3) := by decide +kernel
theorem dX4_startsConstant_27 : decode cX4_startsConstant 27 = .ok (.aload_n 0, 1) := by decide +kernel
theorem dX4_startsConstant_28 : decode cX4_startsConstant 28 = .ok (.getfield 26, 3) := by decide +kernel
theorem dX4_startsConstant_31 : decode cX4_startsConstant 31 = .ok (.sipush 292, 3) := by decide +kernel
theorem dX4_startsConstant_34 : decode cX4_startsConstant 34 = .ok (.if_icmp .ne 7, 3) := by decide +kernel
theorem dX4_startsConstant_37 : decode cX4_startsConstant 37 = .ok (.iconst 1, 1) := by decide +kernel
theorem dX4_startsConstant_38 : decode cX4_startsConstant 38 = .ok (.goto 4, 3) := by decide +kernel
theorem dX4_startsConstant_41 : decode cX4_startsConstant 41 = .ok (.iconst 0, 1) := by decide +kernel
theorem dX4_startsConstant_42 : decode cX4_startsConstant 42 = .ok (.ireturn, 1) := by decide +kernel

theorem dX4_caseStatement_0 : decode cX4_caseStatement 0 = .ok (.aload_n 0, 1) := by decide +kernel
theorem dX4_caseStatement_1 : decode cX4_caseStatement 1 = .ok (.getfield 19, 3) := by decide +kernel
theorem dX4_caseStatement_4 : decode cX4_caseStatement 4 = .ok (.iload_n 1, 1) := by decide +kernel
theorem dX4_caseStatement_5 : decode cX4_caseStatement 5 = .ok (.bipush 16, 2) := by decide +kernel
theorem dX4_caseStatement_7 : decode cX4_caseStatement 7 = .ok (.aload_n 0, 1) := by decide +kernel
theorem dX4_caseStatement_8 : decode cX4_caseStatement 8 = .ok (.getfield 92, 3) := by decide +kernel
theorem dX4_caseStatement_11 : decode cX4_caseStatement 11 = .ok (.iconst 0, 1) := by decide +kernel
theorem dX4_caseStatement_12 : decode cX4_caseStatement 12 = .ok (.invokevirtual 50, 3) := by decide +kernel
theorem dX4_caseStatement_15 : decode cX4_caseStatement 15 = .ok (.istore_n 2, 1) := by decide +kernel
theorem dX4_caseStatement_16 : decode cX4_caseStatement 16 = .ok (.aload_n 0, 1) := by decide +kernel
theorem dX4_caseStatement_17 : decode cX4_caseStatement 17 = .ok (.invokevirtual 166, 3) := by decide +kernel
theorem dX4_caseStatement_20 : decode cX4_caseStatement 20 = .ok (.aload_n 0, 1) := by decide +kernel
theorem dX4_caseStatement_21 : decode cX4_caseStatement 21 = .ok (.iload_n 2, 1) := by decide +kernel
theorem dX4_caseStatement_22 : decode cX4_caseStatement 22 = .ok (.invokevirtual 169, 3) := by decide +kernel
theorem dX4_caseStatement_25 : decode cX4_caseStatement 25 = .ok (.aload_n 0, 1) := by decide +kernel
theorem dX4_caseStatement_26 : decode cX4_caseStatement 26 = .ok (.sipush 271, 3) := by decide +kernel
theorem dX4_caseStatement_29 : decode cX4_caseStatement 29 = .ok (.invokevirtual 39, 3) := by decide +kernel
theorem dX4_caseStatement_32 : decode cX4_caseStatement 32 = .ok (.iconst 0, 1) := by decide +kernel
theorem dX4_caseStatement_33 : decode cX4_caseStatement 33 = .ok (.istore_n 3, 1) := by decide +kernel
theorem dX4_caseStatement_34 : decode cX4_caseStatement 34 = .ok (.iload_n 3, 1) := by decide +kernel
theorem dX4_caseStatement_35 : decode cX4_caseStatement 35 = .ok (.sipush 8192, 3) := by decide +kernel
theorem dX4_caseStatement_38 : decode cX4_caseStatement 38 = .ok (.if_icmp .ge 51, 3) := by decide +kernel
theorem dX4_caseStatement_41 : decode cX4_caseStatement 41 = .ok (.aload_n 0, 1) := by decide +kernel
theorem dX4_caseStatement_42 : decode cX4_caseStatement 42 = .ok (.invokevirtual 182, 3) := by decide +kernel
theorem dX4_caseStatement_45 : decode cX4_caseStatement 45 = .ok (.ifCond .eq 44, 3) := by decide +kernel
theorem dX4_caseStatement_48 : decode cX4_caseStatement 48 = .ok (.aload_n 0, 1) := by decide +kernel
theorem dX4_caseStatement_49 : decode cX4_caseStatement 49 = .ok (.getfield 19, 3) := by decide +kernel
theorem dX4_caseStatement_52 : decode cX4_caseStatement 52 = .ok (.iload_n 2, 1) := by decide +kernel
theorem dX4_caseStatement_53 : decode cX4_caseStatement 53 = .ok (.bipush 17, 2) := by decide +kernel
theorem dX4_caseStatement_55 : decode cX4_caseStatement 55 = .ok (.aload_n 0, 1) := by decide +kernel
theorem dX4_caseStatement_56 : decode cX4_caseStatement 56 = .ok (.getfield 92, 3) := by decide +kernel
theorem dX4_caseStatement_59 : decode cX4_caseStatement 59 = .ok (.iconst 0, 1) := by decide +kernel
theorem dX4_caseStatement_60 : decode cX4_caseStatement 60 = .ok (.invokevirtual 50, 3) := by decide +kernel
theorem dX4_caseStatement_63 : decode cX4_caseStatement 63 = .ok (.istore 4, 2) := by decide +kernel
theorem dX4_caseStatement_65 : decode cX4_caseStatement 65 = .ok (.aload_n 0, 1) := by decide +kernel
theorem dX4_caseStatement_66 : decode cX4_caseStatement 66 = .ok (.iload 4, 2) := by decide +kernel
theorem dX4_caseStatement_68 : decode cX4_caseStatement 68 = .ok (.invokevirtual 185, 3) := by decide +kernel
theorem dX4_caseStatement_71 : decode cX4_caseStatement 71 = .ok (.aload_n 0, 1) := by decide +kernel
theorem dX4_caseStatement_72 : decode cX4_caseStatement 72 = .ok (.bipush 58, 2) := by decide +kernel
theorem dX4_caseStatement_74 : decode cX4_caseStatement 74 = .ok (.invokevirtual 39, 3) := by decide +kernel
theorem dX4_caseStatement_77 : decode cX4_caseStatement 77 = .ok (.aload_n 0, 1) := by decide +kernel
theorem dX4_caseStatement_78 : decode cX4_caseStatement 78 = .ok (.iload 4, 2) := by decide +kernel
theorem dX4_caseStatement_80 : decode cX4_caseStatement 80 = .ok (.invokevirtual 70, 3) := by decide +kernel
theorem dX4_caseStatement_83 : decode cX4_caseStatement 83 = .ok (.iinc 3 1, 3) := by decide +kernel
theorem dX4_caseStatement_86 : decode cX4_caseStatement 86 = .ok (.goto (-52), 3) := by decide +kernel
theorem dX4_caseStatement_89 : decode cX4_caseStatement 89 = .ok (.aload_n 0, 1) := by decide +kernel
theorem dX4_caseStatement_90 : decode cX4_caseStatement 90 = .ok (.getfield 26, 3) := by decide +kernel
theorem dX4_caseStatement_93 : decode cX4_caseStatement 93 = .ok (.sipush 275, 3) := by decide +kernel
theorem dX4_caseStatement_96 : decode cX4_caseStatement 96 = .ok (.if_icmp .ne 15, 3) := by decide +kernel
theorem dX4_caseStatement_99 : decode cX4_caseStatement 99 = .ok (.aload_n 0, 1) := by decide +kernel
theorem dX4_caseStatement_100 : decode cX4_caseStatement 100 = .ok (.sipush 275, 3) := by decide +kernel
theorem dX4_caseStatement_103 : decode cX4_caseStatement 103 = .ok (.invokevirtual 39, 3) := by decide +kernel
theorem dX4_caseStatement_106 : decode cX4_caseStatement 106 = .ok (.aload_n 0, 1) := by decide +kernel
theorem dX4_caseStatement_107 : decode cX4_caseStatement 107 = .ok (.iload_n 2, 1) := by decide +kernel
theorem dX4_caseStatement_108 : decode cX4_caseStatement 108 = .ok (.invokevirtual 70, 3) := by decide +kernel
theorem dX4_caseStatement_111 : decode cX4_caseStatement 111 = .ok (.aload_n 0, 1) := by decide +kernel
theorem dX4_caseStatement_112 : decode cX4_caseStatement 112 = .ok (.sipush 278, 3) := by decide +kernel
theorem dX4_caseStatement_115 : decode cX4_caseStatement 115 = .ok (.invokevirtual 172, 3) := by decide +kernel
theorem dX4_caseStatement_118 : decode cX4_caseStatement 118 = .ok (.return_, 1) := by decide +kernel

theorem dX4_forStatement_0 : decode cX4_forStatement 0 = .ok (.aload_n 0, 1) := by decide +kernel
theorem dX4_forStatement_1 : decode cX4_forStatement 1 = .ok (.getfield 92, 3) := by decide +kernel
theorem dX4_forStatement_4 : decode cX4_forStatement 4 = .ok (.istore_n 2, 1) := by decide +kernel
theorem dX4_forStatement_5 : decode cX4_forStatement 5 = .ok (.aload_n 0, 1) := by decide +kernel
theorem dX4_forStatement_6 : decode cX4_forStatement 6 = .ok (.invokevirtual 166, 3) := by decide +kernel
theorem dX4_forStatement_9 : decode cX4_forStatement 9 = .ok (.aload_n 0, 1) := by decide +kernel
theorem dX4_forStatement_10 : decode cX4_forStatement 10 = .ok (.getfield 19, 3) := by decide +kernel
theorem dX4_forStatement_13 : decode cX4_forStatement 13 = .ok (.iload_n 1, 1) := by decide +kernel
theorem dX4_forStatement_14 : decode cX4_forStatement 14 = .ok (.bipush 19, 2) := by decide +kernel
theorem dX4_forStatement_16 : decode cX4_forStatement 16 = .ok (.iload_n 2, 1) := by decide +kernel
theorem dX4_forStatement_17 : decode cX4_forStatement 17 = .ok (.aload_n 0, 1) := by decide +kernel
theorem dX4_forStatement_18 : decode cX4_forStatement 18 = .ok (.invokevirtual 118, 3) := by decide +kernel
theorem dX4_forStatement_21 : decode cX4_forStatement 21 = .ok (.invokevirtual 50, 3) := by decide +kernel
theorem dX4_forStatement_24 : decode cX4_forStatement 24 = .ok (.istore_n 3, 1) := by decide +kernel
theorem dX4_forStatement_25 : decode cX4_forStatement 25 = .ok (.aload_n 0, 1) := by decide +kernel
theorem dX4_forStatement_26 : decode cX4_forStatement 26 = .ok (.sipush 14909, 3) := by decide +kernel
theorem dX4_forStatement_29 : decode cX4_forStatement 29 = .ok (.invokevirtual 39, 3) := by decide +kernel
theorem dX4_forStatement_32 : decode cX4_forStatement 32 = .ok (.aload_n 0, 1) := by decide +kernel
theorem dX4_forStatement_33 : decode cX4_forStatement 33 = .ok (.iload_n 3, 1) := by decide +kernel
theorem dX4_forStatement_34 : decode cX4_forStatement 34 = .ok (.invokevirtual 139, 3) := by decide +kernel
theorem dX4_forStatement_37 : decode cX4_forStatement 37 = .ok (.aload_n 0, 1) := by decide +kernel
theorem dX4_forStatement_38 : decode cX4_forStatement 38 = .ok (.sipush 280, 3) := by decide +kernel
theorem dX4_forStatement_41 : decode cX4_forStatement 41 = .ok (.invokevirtual 39, 3) := by decide +kernel
theorem dX4_forStatement_44 : decode cX4_forStatement 44 = .ok (.aload_n 0, 1) := by decide +kernel
theorem dX4_forStatement_45 : decode cX4_forStatement 45 = .ok (.iload_n 3, 1) := by decide +kernel
theorem dX4_forStatement_46 : decode cX4_forStatement 46 = .ok (.invokevirtual 139, 3) := by decide +kernel
theorem dX4_forStatement_49 : decode cX4_forStatement 49 = .ok (.aload_n 0, 1) := by decide +kernel
theorem dX4_forStatement_50 : decode cX4_forStatement 50 = .ok (.getfield 26, 3) := by decide +kernel
theorem dX4_forStatement_53 : decode cX4_forStatement 53 = .ok (.sipush 281, 3) := by decide +kernel
theorem dX4_forStatement_56 : decode cX4_forStatement 56 = .ok (.if_icmp .ne 15, 3) := by decide +kernel
theorem dX4_forStatement_59 : decode cX4_forStatement 59 = .ok (.aload_n 0, 1) := by decide +kernel
theorem dX4_forStatement_60 : decode cX4_forStatement 60 = .ok (.sipush 281, 3) := by decide +kernel
theorem dX4_forStatement_63 : decode cX4_forStatement 63 = .ok (.invokevirtual 39, 3) := by decide +kernel
theorem dX4_forStatement_66 : decode cX4_forStatement 66 = .ok (.aload_n 0, 1) := by decide +kernel
theorem dX4_forStatement_67 : decode cX4_forStatement 67 = .ok (.iload_n 3, 1) := by decide +kernel
theorem dX4_forStatement_68 : decode cX4_forStatement 68 = .ok (.invokevirtual 139, 3) := by decide +kernel
theorem dX4_forStatement_71 : decode cX4_forStatement 71 = .ok (.aload_n 0, 1) := by decide +kernel
theorem dX4_forStatement_72 : decode cX4_forStatement 72 = .ok (.sipush 282, 3) := by decide +kernel
theorem dX4_forStatement_75 : decode cX4_forStatement 75 = .ok (.invokevirtual 39, 3) := by decide +kernel
theorem dX4_forStatement_78 : decode cX4_forStatement 78 = .ok (.aload_n 0, 1) := by decide +kernel
theorem dX4_forStatement_79 : decode cX4_forStatement 79 = .ok (.iload_n 3, 1) := by decide +kernel
theorem dX4_forStatement_80 : decode cX4_forStatement 80 = .ok (.invokevirtual 70, 3) := by decide +kernel
theorem dX4_forStatement_83 : decode cX4_forStatement 83 = .ok (.aload_n 0, 1) := by decide +kernel
theorem dX4_forStatement_84 : decode cX4_forStatement 84 = .ok (.sipush 283, 3) := by decide +kernel
theorem dX4_forStatement_87 : decode cX4_forStatement 87 = .ok (.invokevirtual 172, 3) := by decide +kernel
theorem dX4_forStatement_90 : decode cX4_forStatement 90 = .ok (.return_, 1) := by decide +kernel

theorem dX4_ifStatement_0 : decode cX4_ifStatement 0 = .ok (.aload_n 0, 1) := by decide +kernel
theorem dX4_ifStatement_1 : decode cX4_ifStatement 1 = .ok (.getfield 19, 3) := by decide +kernel
theorem dX4_ifStatement_4 : decode cX4_ifStatement 4 = .ok (.iload_n 1, 1) := by decide +kernel
theorem dX4_ifStatement_5 : decode cX4_ifStatement 5 = .ok (.bipush 15, 2) := by decide +kernel
theorem dX4_ifStatement_7 : decode cX4_ifStatement 7 = .ok (.aload_n 0, 1) := by decide +kernel
theorem dX4_ifStatement_8 : decode cX4_ifStatement 8 = .ok (.getfield 92, 3) := by decide +kernel
theorem dX4_ifStatement_11 : decode cX4_ifStatement 11 = .ok (.iconst 0, 1) := by decide +kernel
theorem dX4_ifStatement_12 : decode cX4_ifStatement 12 = .ok (.invokevirtual 50, 3) := by decide +kernel
theorem dX4_ifStatement_15 : decode cX4_ifStatement 15 = .ok (.istore_n 2, 1) := by decide +kernel
theorem dX4_ifStatement_16 : decode cX4_ifStatement 16 = .ok (.aload_n 0, 1) := by decide +kernel
theorem dX4_ifStatement_17 : decode cX4_ifStatement 17 = .ok (.invokevirtual 166, 3) := by decide +kernel
theorem dX4_ifStatement_20 : decode cX4_ifStatement 20 = .ok (.aload_n 0, 1) := by decide +kernel
theorem dX4_ifStatement_21 : decode cX4_ifStatement 21 = .ok (.iload_n 2, 1) := by decide +kernel
theorem dX4_ifStatement_22 : decode cX4_ifStatement 22 = .ok (.invokevirtual 169, 3) := by decide +kernel
theorem dX4_ifStatement_25 : decode cX4_ifStatement 25 = .ok (.aload_n 0, 1) := by decide +kernel
theorem dX4_ifStatement_26 : decode cX4_ifStatement 26 = .ok (.sipush 273, 3) := by decide +kernel
theorem dX4_ifStatement_29 : decode cX4_ifStatement 29 = .ok (.invokevirtual 39, 3) := by decide +kernel
theorem dX4_ifStatement_32 : decode cX4_ifStatement 32 = .ok (.aload_n 0, 1) := by decide +kernel
theorem dX4_ifStatement_33 : decode cX4_ifStatement 33 = .ok (.iload_n 2, 1) := by decide +kernel
theorem dX4_ifStatement_34 : decode cX4_ifStatement 34 = .ok (.invokevirtual 70, 3) := by decide +kernel
theorem dX4_ifStatement_37 : decode cX4_ifStatement 37 = .ok (.iconst 0, 1) := by decide +kernel
theorem dX4_ifStatement_38 : decode cX4_ifStatement 38 = .ok (.istore_n 3, 1) := by decide +kernel
theorem dX4_ifStatement_39 : decode cX4_ifStatement 39 = .ok (.iload_n 3, 1) := by decide +kernel
theorem dX4_ifStatement_40 : decode cX4_ifStatement 40 = .ok (.sipush 8192, 3) := by decide +kernel
theorem dX4_ifStatement_43 : decode cX4_ifStatement 43 = .ok (.if_icmp .ge 43, 3) := by decide +kernel
theorem dX4_ifStatement_46 : decode cX4_ifStatement 46 = .ok (.aload_n 0, 1) := by decide +kernel
theorem dX4_ifStatement_47 : decode cX4_ifStatement 47 = .ok (.getfield 26, 3) := by decide +kernel
theorem dX4_ifStatement_50 : decode cX4_ifStatement 50 = .ok (.sipush 274, 3) := by decide +kernel
theorem dX4_ifStatement_53 : decode cX4_ifStatement 53 = .ok (.if_icmp .ne 33, 3) := by decide +kernel
theorem dX4_ifStatement_56 : decode cX4_ifStatement 56 = .ok (.aload_n 0, 1) := by decide +kernel
theorem dX4_ifStatement_57 : decode cX4_ifStatement 57 = .ok (.sipush 274, 3) := by decide +kernel
theorem dX4_ifStatement_60 : decode cX4_ifStatement 60 = .ok (.invokevirtual 39, 3) := by decide +kernel
theorem dX4_ifStatement_63 : decode cX4_ifStatement 63 = .ok (.aload_n 0, 1) := by decide +kernel
theorem dX4_ifStatement_64 : decode cX4_ifStatement 64 = .ok (.iload_n 2, 1) := by decide +kernel
theorem dX4_ifStatement_65 : decode cX4_ifStatement 65 = .ok (.invokevirtual 169, 3) := by decide +kernel
theorem dX4_ifStatement_68 : decode cX4_ifStatement 68 = .ok (.aload_n 0, 1) := by decide +kernel
theorem dX4_ifStatement_69 : decode cX4_ifStatement 69 = .ok (.sipush 273, 3) := by decide +kernel
theorem dX4_ifStatement_72 : decode cX4_ifStatement 72 = .ok (.invokevirtual 39, 3) := by decide +kernel
theorem dX4_ifStatement_75 : decode cX4_ifStatement 75 = .ok (.aload_n 0, 1) := by decide +kernel
theorem dX4_ifStatement_76 : decode cX4_ifStatement 76 = .ok (.iload_n 2, 1) := by decide +kernel
theorem dX4_ifStatement_77 : decode cX4_ifStatement 77 = .ok (.invokevirtual 70, 3) := by decide +kernel
theorem dX4_ifStatement_80 : decode cX4_ifStatement 80 = .ok (.iinc 3 1, 3) := by decide +kernel
theorem dX4_ifStatement_83 : decode cX4_ifStatement 83 = .ok (.goto (-44), 3) := by decide +kernel
theorem dX4_ifStatement_86 : decode cX4_ifStatement 86 = .ok (.aload_n 0, 1) := by decide +kernel
theorem dX4_ifStatement_87 : decode cX4_ifStatement 87 = .ok (.getfield 26, 3) := by decide +kernel
theorem dX4_ifStatement_90 : decode cX4_ifStatement 90 = .ok (.sipush 275, 3) := by decide +kernel
theorem dX4_ifStatement_93 : decode cX4_ifStatement 93 = .ok (.if_icmp .ne 15, 3) := by decide +kernel
theorem dX4_ifStatement_96 : decode cX4_ifStatement 96 = .ok (.aload_n 0, 1) := by decide +kernel
theorem dX4_ifStatement_97 : decode cX4_ifStatement 97 = .ok (.sipush 275, 3) := by decide +kernel
theorem dX4_ifStatement_100 : decode cX4_ifStatement 100 = .ok (.invokevirtual 39, 3) := by decide +kernel
theorem dX4_ifStatement_103 : decode cX4_ifStatement 103 = .ok (.aload_n 0, 1) := by decide +kernel
theorem dX4_ifStatement_104 : decode cX4_ifStatement 104 = .ok (.iload_n 2, 1) := by decide +kernel
theorem dX4_ifStatement_105 : decode cX4_ifStatement 105 = .ok (.invokevirtual 70, 3) := by decide +kernel
theorem dX4_ifStatement_108 : decode cX4_ifStatement 108 = .ok (.aload_n 0, 1) := by decide +kernel
theorem dX4_ifStatement_109 : decode cX4_ifStatement 109 = .ok (.sipush 276, 3) := by decide +kernel
theorem dX4_ifStatement_112 : decode cX4_ifStatement 112 = .ok (.invokevirtual 172, 3) := by decide +kernel
theorem dX4_ifStatement_115 : decode cX4_ifStatement 115 = .ok (.return_, 1) := by decide +kernel

theorem dX4_invocation_0 : decode cX4_invocation 0 = .ok (.aload_n 0, 1) := by decide +kernel
theorem dX4_invocation_1 : decode cX4_invocation 1 = .ok (.getfield 19, 3) := by decide +kernel
theorem dX4_invocation_4 : decode cX4_invocation 4 = .ok (.iload_n 1, 1) := by decide +kernel
theorem dX4_invocation_5 : decode cX4_invocation 5 = .ok (.bipush 13, 2) := by decide +kernel
theorem dX4_invocation_7 : decode cX4_invocation 7 = .ok (.iload_n 2, 1) := by decide +kernel
theorem dX4_invocation_8 : decode cX4_invocation 8 = .ok (.iload_n 3, 1) := by decide +kernel
theorem dX4_invocation_9 : decode cX4_invocation 9 = .ok (.invokevirtual 50, 3) := by decide +kernel
theorem dX4_invocation_12 : decode cX4_invocation 12 = .ok (.istore 4, 2) := by decide +kernel
theorem dX4_invocation_14 : decode cX4_invocation 14 = .ok (.aload_n 0, 1) := by decide +kernel
theorem dX4_invocation_15 : decode cX4_invocation 15 = .ok (.invokevirtual 166, 3) := by decide +kernel
theorem dX4_invocation_18 : decode cX4_invocation 18 = .ok (.aload_n 0, 1) := by decide +kernel
theorem dX4_invocation_19 : decode cX4_invocation 19 = .ok (.getfield 26, 3) := by decide +kernel
theorem dX4_invocation_22 : decode cX4_invocation 22 = .ok (.bipush 41, 2) := by decide +kernel
theorem dX4_invocation_24 : decode cX4_invocation 24 = .ok (.if_icmp .eq 7, 3) := by decide +kernel
theorem dX4_invocation_27 : decode cX4_invocation 27 = .ok (.iconst 1, 1) := by decide +kernel
theorem dX4_invocation_28 : decode cX4_invocation 28 = .ok (.goto 4, 3) := by decide +kernel
theorem dX4_invocation_31 : decode cX4_invocation 31 = .ok (.iconst 0, 1) := by decide +kernel
theorem dX4_invocation_32 : decode cX4_invocation 32 = .ok (.istore 5, 2) := by decide +kernel
theorem dX4_invocation_34 : decode cX4_invocation 34 = .ok (.iconst 0, 1) := by decide +kernel
theorem dX4_invocation_35 : decode cX4_invocation 35 = .ok (.istore 6, 2) := by decide +kernel
theorem dX4_invocation_37 : decode cX4_invocation 37 = .ok (.iload 5, 2) := by decide +kernel
theorem dX4_invocation_39 : decode cX4_invocation 39 = .ok (.ifCond .eq 61, 3) := by decide +kernel
theorem dX4_invocation_42 : decode cX4_invocation 42 = .ok (.iload 6, 2) := by decide +kernel
theorem dX4_invocation_44 : decode cX4_invocation 44 = .ok (.sipush 8192, 3) := by decide +kernel
theorem dX4_invocation_47 : decode cX4_invocation 47 = .ok (.if_icmp .ge 53, 3) := by decide +kernel
theorem dX4_invocation_50 : decode cX4_invocation 50 = .ok (.aload_n 0, 1) := by decide +kernel
theorem dX4_invocation_51 : decode cX4_invocation 51 = .ok (.getfield 92, 3) := by decide +kernel
theorem dX4_invocation_54 : decode cX4_invocation 54 = .ok (.istore 7, 2) := by decide +kernel
theorem dX4_invocation_56 : decode cX4_invocation 56 = .ok (.aload_n 0, 1) := by decide +kernel
theorem dX4_invocation_57 : decode cX4_invocation 57 = .ok (.getfield 19, 3) := by decide +kernel
theorem dX4_invocation_60 : decode cX4_invocation 60 = .ok (.iload 4, 2) := by decide +kernel
theorem dX4_invocation_62 : decode cX4_invocation 62 = .ok (.bipush 14, 2) := by decide +kernel
theorem dX4_invocation_64 : decode cX4_invocation 64 = .ok (.iload 7, 2) := by decide +kernel
theorem dX4_invocation_66 : decode cX4_invocation 66 = .ok (.aload_n 0, 1) := by decide +kernel
theorem dX4_invocation_67 : decode cX4_invocation 67 = .ok (.invokevirtual 118, 3) := by decide +kernel
theorem dX4_invocation_70 : decode cX4_invocation 70 = .ok (.invokevirtual 50, 3) := by decide +kernel
theorem dX4_invocation_73 : decode cX4_invocation 73 = .ok (.istore 8, 2) := by decide +kernel
theorem dX4_invocation_75 : decode cX4_invocation 75 = .ok (.aload_n 0, 1) := by decide +kernel
theorem dX4_invocation_76 : decode cX4_invocation 76 = .ok (.sipush 14909, 3) := by decide +kernel
theorem dX4_invocation_79 : decode cX4_invocation 79 = .ok (.invokevirtual 39, 3) := by decide +kernel
theorem dX4_invocation_82 : decode cX4_invocation 82 = .ok (.aload_n 0, 1) := by decide +kernel
theorem dX4_invocation_83 : decode cX4_invocation 83 = .ok (.iload 8, 2) := by decide +kernel
theorem dX4_invocation_85 : decode cX4_invocation 85 = .ok (.invokevirtual 169, 3) := by decide +kernel
theorem dX4_invocation_88 : decode cX4_invocation 88 = .ok (.aload_n 0, 1) := by decide +kernel
theorem dX4_invocation_89 : decode cX4_invocation 89 = .ok (.invokevirtual 179, 3) := by decide +kernel
theorem dX4_invocation_92 : decode cX4_invocation 92 = .ok (.istore 5, 2) := by decide +kernel
theorem dX4_invocation_94 : decode cX4_invocation 94 = .ok (.iinc 6 1, 3) := by decide +kernel
theorem dX4_invocation_97 : decode cX4_invocation 97 = .ok (.goto (-60), 3) := by decide +kernel
theorem dX4_invocation_100 : decode cX4_invocation 100 = .ok (.aload_n 0, 1) := by decide +kernel
theorem dX4_invocation_101 : decode cX4_invocation 101 = .ok (.bipush 41, 2) := by decide +kernel
theorem dX4_invocation_103 : decode cX4_invocation 103 = .ok (.invokevirtual 172, 3) := by decide +kernel
theorem dX4_invocation_106 : decode cX4_invocation 106 = .ok (.return_, 1) := by decide +kernel

theorem dX4_statement_0 : decode cX4_statement 0 = .ok (.aload_n 0, 1) := by decide +kernel
theorem dX4_statement_1 : decode cX4_statement 1 = .ok (.getfield 26, 3) := by decide +kernel
theorem dX4_statement_4 : decode cX4_statement 4 = .ok (.lookupswitch 186 #[(1, 68), (59, 183), (272, 107), (277, 115), (279, 123), (284, 131), (285, 157)], 68) := by decide +kernel
theorem dX4_statement_72 : decode cX4_statement 72 = .ok (.aload_n 0, 1) := by decide +kernel
theorem dX4_statement_73 : decode cX4_statement 73 = .ok (.getfield 92, 3) := by decide +kernel
theorem dX4_statement_76 : decode cX4_statement 76 = .ok (.istore_n 2, 1) := by decide +kernel
theorem dX4_statement_77 : decode cX4_statement 77 = .ok (.aload_n 0, 1) := by decide +kernel
theorem dX4_statement_78 : decode cX4_statement 78 = .ok (.invokevirtual 118, 3) := by decide +kernel
theorem dX4_statement_81 : decode cX4_statement 81 = .ok (.istore_n 3, 1) := by decide +kernel
theorem dX4_statement_82 : decode cX4_statement 82 = .ok (.aload_n 0, 1) := by decide +kernel
theorem dX4_statement_83 : decode cX4_statement 83 = .ok (.getfield 26, 3) := by decide +kernel
theorem dX4_statement_86 : decode cX4_statement 86 = .ok (.bipush 40, 2) := by decide +kernel
theorem dX4_statement_88 : decode cX4_statement 88 = .ok (.if_icmp .ne 13, 3) := by decide +kernel
theorem dX4_statement_91 : decode cX4_statement 91 = .ok (.aload_n 0, 1) := by decide +kernel
theorem dX4_statement_92 : decode cX4_statement 92 = .ok (.iload_n 1, 1) := by decide +kernel
theorem dX4_statement_93 : decode cX4_statement 93 = .ok (.iload_n 2, 1) := by decide +kernel
theorem dX4_statement_94 : decode cX4_statement 94 = .ok (.iload_n 3, 1) := by decide +kernel
theorem dX4_statement_95 : decode cX4_statement 95 = .ok (.invokevirtual 149, 3) := by decide +kernel
theorem dX4_statement_98 : decode cX4_statement 98 = .ok (.goto 94, 3) := by decide +kernel
theorem dX4_statement_101 : decode cX4_statement 101 = .ok (.aload_n 0, 1) := by decide +kernel
theorem dX4_statement_102 : decode cX4_statement 102 = .ok (.iload_n 1, 1) := by decide +kernel
theorem dX4_statement_103 : decode cX4_statement 103 = .ok (.iload_n 2, 1) := by decide +kernel
theorem dX4_statement_104 : decode cX4_statement 104 = .ok (.iload_n 3, 1) := by decide +kernel
theorem dX4_statement_105 : decode cX4_statement 105 = .ok (.invokevirtual 153, 3) := by decide +kernel
theorem dX4_statement_108 : decode cX4_statement 108 = .ok (.goto 84, 3) := by decide +kernel
theorem dX4_statement_111 : decode cX4_statement 111 = .ok (.aload_n 0, 1) := by decide +kernel
theorem dX4_statement_112 : decode cX4_statement 112 = .ok (.iload_n 1, 1) := by decide +kernel
theorem dX4_statement_113 : decode cX4_statement 113 = .ok (.invokevirtual 156, 3) := by decide +kernel
theorem dX4_statement_116 : decode cX4_statement 116 = .ok (.goto 76, 3) := by decide +kernel
theorem dX4_statement_119 : decode cX4_statement 119 = .ok (.aload_n 0, 1) := by decide +kernel
theorem dX4_statement_120 : decode cX4_statement 120 = .ok (.iload_n 1, 1) := by decide +kernel
theorem dX4_statement_121 : decode cX4_statement 121 = .ok (.invokevirtual 159, 3) := by decide +kernel
theorem dX4_statement_124 : decode cX4_statement 124 = .ok (.goto 68, 3) := by decide +kernel
theorem dX4_statement_127 : decode cX4_statement 127 = .ok (.aload_n 0, 1) := by decide +kernel
theorem dX4_statement_128 : decode cX4_statement 128 = .ok (.iload_n 1, 1) := by decide +kernel
theorem dX4_statement_129 : decode cX4_statement 129 = .ok (.invokevirtual 162, 3) := by decide +kernel
theorem dX4_statement_132 : decode cX4_statement 132 = .ok (.goto 60, 3) := by decide +kernel
theorem dX4_statement_135 : decode cX4_statement 135 = .ok (.aload_n 0, 1) := by decide +kernel
theorem dX4_statement_136 : decode cX4_statement 136 = .ok (.getfield 19, 3) := by decide +kernel
theorem dX4_statement_139 : decode cX4_statement 139 = .ok (.iload_n 1, 1) := by decide +kernel
theorem dX4_statement_140 : decode cX4_statement 140 = .ok (.bipush 20, 2) := by decide +kernel
theorem dX4_statement_142 : decode cX4_statement 142 = .ok (.aload_n 0, 1) := by decide +kernel
theorem dX4_statement_143 : decode cX4_statement 143 = .ok (.getfield 92, 3) := by decide +kernel
theorem dX4_statement_146 : decode cX4_statement 146 = .ok (.iconst 0, 1) := by decide +kernel
theorem dX4_statement_147 : decode cX4_statement 147 = .ok (.invokevirtual 50, 3) := by decide +kernel
theorem dX4_statement_150 : decode cX4_statement 150 = .ok (.pop, 1) := by decide +kernel
theorem dX4_statement_151 : decode cX4_statement 151 = .ok (.aload_n 0, 1) := by decide +kernel
theorem dX4_statement_152 : decode cX4_statement 152 = .ok (.sipush 284, 3) := by decide +kernel
theorem dX4_statement_155 : decode cX4_statement 155 = .ok (.invokevirtual 39, 3) := by decide +kernel
theorem dX4_statement_158 : decode cX4_statement 158 = .ok (.goto 34, 3) := by decide +kernel
theorem dX4_statement_161 : decode cX4_statement 161 = .ok (.aload_n 0, 1) := by decide +kernel
theorem dX4_statement_162 : decode cX4_statement 162 = .ok (.getfield 19, 3) := by decide +kernel
theorem dX4_statement_165 : decode cX4_statement 165 = .ok (.iload_n 1, 1) := by decide +kernel
theorem dX4_statement_166 : decode cX4_statement 166 = .ok (.bipush 21, 2) := by decide +kernel
theorem dX4_statement_168 : decode cX4_statement 168 = .ok (.aload_n 0, 1) := by decide +kernel
theorem dX4_statement_169 : decode cX4_statement 169 = .ok (.getfield 92, 3) := by decide +kernel
theorem dX4_statement_172 : decode cX4_statement 172 = .ok (.iconst 0, 1) := by decide +kernel
theorem dX4_statement_173 : decode cX4_statement 173 = .ok (.invokevirtual 50, 3) := by decide +kernel
theorem dX4_statement_176 : decode cX4_statement 176 = .ok (.pop, 1) := by decide +kernel
theorem dX4_statement_177 : decode cX4_statement 177 = .ok (.aload_n 0, 1) := by decide +kernel
theorem dX4_statement_178 : decode cX4_statement 178 = .ok (.sipush 285, 3) := by decide +kernel
theorem dX4_statement_181 : decode cX4_statement 181 = .ok (.invokevirtual 39, 3) := by decide +kernel
theorem dX4_statement_184 : decode cX4_statement 184 = .ok (.goto 8, 3) := by decide +kernel
theorem dX4_statement_187 : decode cX4_statement 187 = .ok (.goto 5, 3) := by decide +kernel
theorem dX4_statement_190 : decode cX4_statement 190 = .ok (.iconst 0, 1) := by decide +kernel
theorem dX4_statement_191 : decode cX4_statement 191 = .ok (.ireturn, 1) := by decide +kernel
theorem dX4_statement_192 : decode cX4_statement 192 = .ok (.aload_n 0, 1) := by decide +kernel
theorem dX4_statement_193 : decode cX4_statement 193 = .ok (.bipush 59, 2) := by decide +kernel
theorem dX4_statement_195 : decode cX4_statement 195 = .ok (.invokevirtual 39, 3) := by decide +kernel
theorem dX4_statement_198 : decode cX4_statement 198 = .ok (.iconst 1, 1) := by decide +kernel
theorem dX4_statement_199 : decode cX4_statement 199 = .ok (.ireturn, 1) := by decide +kernel

theorem dX4_body_0 : decode cX4_body 0 = .ok (.aload_n 0, 1) := by decide +kernel
theorem dX4_body_1 : decode cX4_body 1 = .ok (.getfield 19, 3) := by decide +kernel
theorem dX4_body_4 : decode cX4_body 4 = .ok (.iload_n 1, 1) := by decide +kernel
theorem dX4_body_5 : decode cX4_body 5 = .ok (.bipush 11, 2) := by decide +kernel
theorem dX4_body_7 : decode cX4_body 7 = .ok (.aload_n 0, 1) := by decide +kernel
theorem dX4_body_8 : decode cX4_body 8 = .ok (.getfield 94, 3) := by decide +kernel
theorem dX4_body_11 : decode cX4_body 11 = .ok (.iconst 0, 1) := by decide +kernel
theorem dX4_body_12 : decode cX4_body 12 = .ok (.invokevirtual 50, 3) := by decide +kernel
theorem dX4_body_15 : decode cX4_body 15 = .ok (.istore_n 2, 1) := by decide +kernel
theorem dX4_body_16 : decode cX4_body 16 = .ok (.iconst 1, 1) := by decide +kernel
theorem dX4_body_17 : decode cX4_body 17 = .ok (.istore_n 3, 1) := by decide +kernel
theorem dX4_body_18 : decode cX4_body 18 = .ok (.iconst 0, 1) := by decide +kernel
theorem dX4_body_19 : decode cX4_body 19 = .ok (.istore 4, 2) := by decide +kernel
theorem dX4_body_21 : decode cX4_body 21 = .ok (.iload_n 3, 1) := by decide +kernel
theorem dX4_body_22 : decode cX4_body 22 = .ok (.ifCond .eq 23, 3) := by decide +kernel
theorem dX4_body_25 : decode cX4_body 25 = .ok (.iload 4, 2) := by decide +kernel
theorem dX4_body_27 : decode cX4_body 27 = .ok (.sipush 8192, 3) := by decide +kernel
theorem dX4_body_30 : decode cX4_body 30 = .ok (.if_icmp .ge 15, 3) := by decide +kernel
theorem dX4_body_33 : decode cX4_body 33 = .ok (.aload_n 0, 1) := by decide +kernel
theorem dX4_body_34 : decode cX4_body 34 = .ok (.iload_n 2, 1) := by decide +kernel
theorem dX4_body_35 : decode cX4_body 35 = .ok (.invokevirtual 145, 3) := by decide +kernel
theorem dX4_body_38 : decode cX4_body 38 = .ok (.istore_n 3, 1) := by decide +kernel
theorem dX4_body_39 : decode cX4_body 39 = .ok (.iinc 4 1, 3) := by decide +kernel
theorem dX4_body_42 : decode cX4_body 42 = .ok (.goto (-21), 3) := by decide +kernel
theorem dX4_body_45 : decode cX4_body 45 = .ok (.return_, 1) := by decide +kernel

theorem dX4_endOfBlock_0 : decode cX4_endOfBlock 0 = .ok (.iload_n 0, 1) := by decide +kernel
theorem dX4_endOfBlock_1 : decode cX4_endOfBlock 1 = .ok (.lookupswitch 35 #[(256, 27), (258, 31)], 27) := by decide +kernel
theorem dX4_endOfBlock_28 : decode cX4_endOfBlock 28 = .ok (.sipush 257, 3) := by decide +kernel
theorem dX4_endOfBlock_31 : decode cX4_endOfBlock 31 = .ok (.ireturn, 1) := by decide +kernel
theorem dX4_endOfBlock_32 : decode cX4_endOfBlock 32 = .ok (.sipush 259, 3) := by decide +kernel
theorem dX4_endOfBlock_35 : decode cX4_endOfBlock 35 = .ok (.ireturn, 1) := by decide +kernel
theorem dX4_endOfBlock_36 : decode cX4_endOfBlock 36 = .ok (.sipush 261, 3) := by decide +kernel
theorem dX4_endOfBlock_39 : decode cX4_endOfBlock 39 = .ok (.ireturn, 1) := by decide +kernel

theorem dX4_coilValue_0 : decode cX4_coilValue 0 = .ok (.iload_n 0, 1) := by decide +kernel
theorem dX4_coilValue_1 : decode cX4_coilValue 1 = .ok (.tableswitch 41 43 47 #[37, 41, 39, 41, 35], 35) := by decide +kernel
theorem dX4_coilValue_36 : decode cX4_coilValue 36 = .ok (.iconst 1, 1) := by decide +kernel
theorem dX4_coilValue_37 : decode cX4_coilValue 37 = .ok (.ireturn, 1) := by decide +kernel
theorem dX4_coilValue_38 : decode cX4_coilValue 38 = .ok (.iconst 2, 1) := by decide +kernel
theorem dX4_coilValue_39 : decode cX4_coilValue 39 = .ok (.ireturn, 1) := by decide +kernel
theorem dX4_coilValue_40 : decode cX4_coilValue 40 = .ok (.iconst 3, 1) := by decide +kernel
theorem dX4_coilValue_41 : decode cX4_coilValue 41 = .ok (.ireturn, 1) := by decide +kernel
theorem dX4_coilValue_42 : decode cX4_coilValue 42 = .ok (.iconst 0, 1) := by decide +kernel
theorem dX4_coilValue_43 : decode cX4_coilValue 43 = .ok (.ireturn, 1) := by decide +kernel

theorem dX4_coil_0 : decode cX4_coil 0 = .ok (.aload_n 0, 1) := by decide +kernel
theorem dX4_coil_1 : decode cX4_coil 1 = .ok (.getfield 92, 3) := by decide +kernel
theorem dX4_coil_4 : decode cX4_coil 4 = .ok (.istore_n 2, 1) := by decide +kernel
theorem dX4_coil_5 : decode cX4_coil 5 = .ok (.aload_n 0, 1) := by decide +kernel
theorem dX4_coil_6 : decode cX4_coil 6 = .ok (.bipush 40, 2) := by decide +kernel
theorem dX4_coil_8 : decode cX4_coil 8 = .ok (.invokevirtual 39, 3) := by decide +kernel
theorem dX4_coil_11 : decode cX4_coil 11 = .ok (.aload_n 0, 1) := by decide +kernel
theorem dX4_coil_12 : decode cX4_coil 12 = .ok (.getfield 26, 3) := by decide +kernel
theorem dX4_coil_15 : decode cX4_coil 15 = .ok (.invokestatic 222, 3) := by decide +kernel
theorem dX4_coil_18 : decode cX4_coil 18 = .ok (.istore_n 3, 1) := by decide +kernel
theorem dX4_coil_19 : decode cX4_coil 19 = .ok (.aload_n 0, 1) := by decide +kernel
theorem dX4_coil_20 : decode cX4_coil 20 = .ok (.getfield 19, 3) := by decide +kernel
theorem dX4_coil_23 : decode cX4_coil 23 = .ok (.iload_n 1, 1) := by decide +kernel
theorem dX4_coil_24 : decode cX4_coil 24 = .ok (.bipush 28, 2) := by decide +kernel
theorem dX4_coil_26 : decode cX4_coil 26 = .ok (.iload_n 2, 1) := by decide +kernel
theorem dX4_coil_27 : decode cX4_coil 27 = .ok (.iload_n 3, 1) := by decide +kernel
theorem dX4_coil_28 : decode cX4_coil 28 = .ok (.invokevirtual 50, 3) := by decide +kernel
theorem dX4_coil_31 : decode cX4_coil 31 = .ok (.istore 4, 2) := by decide +kernel
theorem dX4_coil_33 : decode cX4_coil 33 = .ok (.iload_n 3, 1) := by decide +kernel
theorem dX4_coil_34 : decode cX4_coil 34 = .ok (.ifCond .eq 11, 3) := by decide +kernel
theorem dX4_coil_37 : decode cX4_coil 37 = .ok (.aload_n 0, 1) := by decide +kernel
theorem dX4_coil_38 : decode cX4_coil 38 = .ok (.aload_n 0, 1) := by decide +kernel
theorem dX4_coil_39 : decode cX4_coil 39 = .ok (.getfield 26, 3) := by decide +kernel
theorem dX4_coil_42 : decode cX4_coil 42 = .ok (.invokevirtual 39, 3) := by decide +kernel
theorem dX4_coil_45 : decode cX4_coil 45 = .ok (.aload_n 0, 1) := by decide +kernel
theorem dX4_coil_46 : decode cX4_coil 46 = .ok (.iload 4, 2) := by decide +kernel
theorem dX4_coil_48 : decode cX4_coil 48 = .ok (.invokevirtual 131, 3) := by decide +kernel
theorem dX4_coil_51 : decode cX4_coil 51 = .ok (.aload_n 0, 1) := by decide +kernel
theorem dX4_coil_52 : decode cX4_coil 52 = .ok (.bipush 41, 2) := by decide +kernel
theorem dX4_coil_54 : decode cX4_coil 54 = .ok (.invokevirtual 39, 3) := by decide +kernel
theorem dX4_coil_57 : decode cX4_coil 57 = .ok (.return_, 1) := by decide +kernel

theorem dX4_contactValue_0 : decode cX4_contactValue 0 = .ok (.iload_n 0, 1) := by decide +kernel
theorem dX4_contactValue_1 : decode cX4_contactValue 1 = .ok (.lookupswitch 41 #[(47, 35), (60, 39), (62, 37)], 35) := by decide +kernel
theorem dX4_contactValue_36 : decode cX4_contactValue 36 = .ok (.iconst 1, 1) := by decide +kernel
theorem dX4_contactValue_37 : decode cX4_contactValue 37 = .ok (.ireturn, 1) := by decide +kernel
theorem dX4_contactValue_38 : decode cX4_contactValue 38 = .ok (.iconst 2, 1) := by decide +kernel
theorem dX4_contactValue_39 : decode cX4_contactValue 39 = .ok (.ireturn, 1) := by decide +kernel
theorem dX4_contactValue_40 : decode cX4_contactValue 40 = .ok (.iconst 3, 1) := by decide +kernel
theorem dX4_contactValue_41 : decode cX4_contactValue 41 = .ok (.ireturn, 1) := by decide +kernel
theorem dX4_contactValue_42 : decode cX4_contactValue 42 = .ok (.iconst 0, 1) := by decide +kernel
theorem dX4_contactValue_43 : decode cX4_contactValue 43 = .ok (.ireturn, 1) := by decide +kernel

theorem dX4_contact_0 : decode cX4_contact 0 = .ok (.aload_n 0, 1) := by decide +kernel
theorem dX4_contact_1 : decode cX4_contact 1 = .ok (.getfield 26, 3) := by decide +kernel
theorem dX4_contact_4 : decode cX4_contact 4 = .ok (.invokestatic 219, 3) := by decide +kernel
theorem dX4_contact_7 : decode cX4_contact 7 = .ok (.istore_n 2, 1) := by decide +kernel
theorem dX4_contact_8 : decode cX4_contact 8 = .ok (.aload_n 0, 1) := by decide +kernel
theorem dX4_contact_9 : decode cX4_contact 9 = .ok (.getfield 19, 3) := by decide +kernel
theorem dX4_contact_12 : decode cX4_contact 12 = .ok (.iload_n 1, 1) := by decide +kernel
theorem dX4_contact_13 : decode cX4_contact 13 = .ok (.bipush 25, 2) := by decide +kernel
theorem dX4_contact_15 : decode cX4_contact 15 = .ok (.aload_n 0, 1) := by decide +kernel
theorem dX4_contact_16 : decode cX4_contact 16 = .ok (.getfield 92, 3) := by decide +kernel
theorem dX4_contact_19 : decode cX4_contact 19 = .ok (.iload_n 2, 1) := by decide +kernel
theorem dX4_contact_20 : decode cX4_contact 20 = .ok (.invokevirtual 50, 3) := by decide +kernel
theorem dX4_contact_23 : decode cX4_contact 23 = .ok (.istore_n 3, 1) := by decide +kernel
theorem dX4_contact_24 : decode cX4_contact 24 = .ok (.iload_n 2, 1) := by decide +kernel
theorem dX4_contact_25 : decode cX4_contact 25 = .ok (.ifCond .eq 11, 3) := by decide +kernel
theorem dX4_contact_28 : decode cX4_contact 28 = .ok (.aload_n 0, 1) := by decide +kernel
theorem dX4_contact_29 : decode cX4_contact 29 = .ok (.aload_n 0, 1) := by decide +kernel
theorem dX4_contact_30 : decode cX4_contact 30 = .ok (.getfield 26, 3) := by decide +kernel
theorem dX4_contact_33 : decode cX4_contact 33 = .ok (.invokevirtual 39, 3) := by decide +kernel
theorem dX4_contact_36 : decode cX4_contact 36 = .ok (.aload_n 0, 1) := by decide +kernel
theorem dX4_contact_37 : decode cX4_contact 37 = .ok (.getfield 92, 3) := by decide +kernel
theorem dX4_contact_40 : decode cX4_contact 40 = .ok (.istore 4, 2) := by decide +kernel
theorem dX4_contact_42 : decode cX4_contact 42 = .ok (.aload_n 0, 1) := by decide +kernel
theorem dX4_contact_43 : decode cX4_contact 43 = .ok (.invokevirtual 118, 3) := by decide +kernel
theorem dX4_contact_46 : decode cX4_contact 46 = .ok (.istore 5, 2) := by decide +kernel
theorem dX4_contact_48 : decode cX4_contact 48 = .ok (.aload_n 0, 1) := by decide +kernel
theorem dX4_contact_49 : decode cX4_contact 49 = .ok (.getfield 26, 3) := by decide +kernel
theorem dX4_contact_52 : decode cX4_contact 52 = .ok (.bipush 46, 2) := by decide +kernel
theorem dX4_contact_54 : decode cX4_contact 54 = .ok (.if_icmp .ne 30, 3) := by decide +kernel
theorem dX4_contact_57 : decode cX4_contact 57 = .ok (.aload_n 0, 1) := by decide +kernel
theorem dX4_contact_58 : decode cX4_contact 58 = .ok (.bipush 46, 2) := by decide +kernel
theorem dX4_contact_60 : decode cX4_contact 60 = .ok (.invokevirtual 39, 3) := by decide +kernel
theorem dX4_contact_63 : decode cX4_contact 63 = .ok (.aload_n 0, 1) := by decide +kernel
theorem dX4_contact_64 : decode cX4_contact 64 = .ok (.aload_n 0, 1) := by decide +kernel
theorem dX4_contact_65 : decode cX4_contact 65 = .ok (.getfield 19, 3) := by decide +kernel
theorem dX4_contact_68 : decode cX4_contact 68 = .ok (.iload_n 3, 1) := by decide +kernel
theorem dX4_contact_69 : decode cX4_contact 69 = .ok (.bipush 33, 2) := by decide +kernel
theorem dX4_contact_71 : decode cX4_contact 71 = .ok (.iload 4, 2) := by decide +kernel
theorem dX4_contact_73 : decode cX4_contact 73 = .ok (.iload 5, 2) := by decide +kernel
theorem dX4_contact_75 : decode cX4_contact 75 = .ok (.invokevirtual 50, 3) := by decide +kernel
theorem dX4_contact_78 : decode cX4_contact 78 = .ok (.invokevirtual 131, 3) := by decide +kernel
theorem dX4_contact_81 : decode cX4_contact 81 = .ok (.goto 18, 3) := by decide +kernel
theorem dX4_contact_84 : decode cX4_contact 84 = .ok (.aload_n 0, 1) := by decide +kernel
theorem dX4_contact_85 : decode cX4_contact 85 = .ok (.getfield 19, 3) := by decide +kernel
theorem dX4_contact_88 : decode cX4_contact 88 = .ok (.iload_n 3, 1) := by decide +kernel
theorem dX4_contact_89 : decode cX4_contact 89 = .ok (.bipush 6, 2) := by decide +kernel
theorem dX4_contact_91 : decode cX4_contact 91 = .ok (.iload 4, 2) := by decide +kernel
theorem dX4_contact_93 : decode cX4_contact 93 = .ok (.iload 5, 2) := by decide +kernel
theorem dX4_contact_95 : decode cX4_contact 95 = .ok (.invokevirtual 50, 3) := by decide +kernel
theorem dX4_contact_98 : decode cX4_contact 98 = .ok (.pop, 1) := by decide +kernel
theorem dX4_contact_99 : decode cX4_contact 99 = .ok (.return_, 1) := by decide +kernel

theorem dX4_cell_0 : decode cX4_cell 0 = .ok (.aload_n 0, 1) := by decide +kernel
theorem dX4_cell_1 : decode cX4_cell 1 = .ok (.getfield 26, 3) := by decide +kernel
theorem dX4_cell_4 : decode cX4_cell 4 = .ok (.lookupswitch 134 #[(1, 126), (40, 118), (42, 93), (45, 68), (47, 126), (60, 126), (62, 126)], 68) := by decide +kernel
theorem dX4_cell_72 : decode cX4_cell 72 = .ok (.aload_n 0, 1) := by decide +kernel
theorem dX4_cell_73 : decode cX4_cell 73 = .ok (.getfield 19, 3) := by decide +kernel
theorem dX4_cell_76 : decode cX4_cell 76 = .ok (.iload_n 1, 1) := by decide +kernel
theorem dX4_cell_77 : decode cX4_cell 77 = .ok (.bipush 26, 2) := by decide +kernel
theorem dX4_cell_79 : decode cX4_cell 79 = .ok (.aload_n 0, 1) := by decide +kernel
theorem dX4_cell_80 : decode cX4_cell 80 = .ok (.getfield 92, 3) := by decide +kernel
theorem dX4_cell_83 : decode cX4_cell 83 = .ok (.iconst 0, 1) := by decide +kernel
theorem dX4_cell_84 : decode cX4_cell 84 = .ok (.invokevirtual 50, 3) := by decide +kernel
theorem dX4_cell_87 : decode cX4_cell 87 = .ok (.pop, 1) := by decide +kernel
theorem dX4_cell_88 : decode cX4_cell 88 = .ok (.aload_n 0, 1) := by decide +kernel
theorem dX4_cell_89 : decode cX4_cell 89 = .ok (.bipush 45, 2) := by decide +kernel
theorem dX4_cell_91 : decode cX4_cell 91 = .ok (.invokevirtual 39, 3) := by decide +kernel
theorem dX4_cell_94 : decode cX4_cell 94 = .ok (.goto 50, 3) := by decide +kernel
theorem dX4_cell_97 : decode cX4_cell 97 = .ok (.aload_n 0, 1) := by decide +kernel
theorem dX4_cell_98 : decode cX4_cell 98 = .ok (.getfield 19, 3) := by decide +kernel
theorem dX4_cell_101 : decode cX4_cell 101 = .ok (.iload_n 1, 1) := by decide +kernel
theorem dX4_cell_102 : decode cX4_cell 102 = .ok (.bipush 27, 2) := by decide +kernel
theorem dX4_cell_104 : decode cX4_cell 104 = .ok (.aload_n 0, 1) := by decide +kernel
theorem dX4_cell_105 : decode cX4_cell 105 = .ok (.getfield 92, 3) := by decide +kernel
theorem dX4_cell_108 : decode cX4_cell 108 = .ok (.iconst 0, 1) := by decide +kernel
theorem dX4_cell_109 : decode cX4_cell 109 = .ok (.invokevirtual 50, 3) := by decide +kernel
theorem dX4_cell_112 : decode cX4_cell 112 = .ok (.pop, 1) := by decide +kernel
theorem dX4_cell_113 : decode cX4_cell 113 = .ok (.aload_n 0, 1) := by decide +kernel
theorem dX4_cell_114 : decode cX4_cell 114 = .ok (.bipush 42, 2) := by decide +kernel
theorem dX4_cell_116 : decode cX4_cell 116 = .ok (.invokevirtual 39, 3) := by decide +kernel
theorem dX4_cell_119 : decode cX4_cell 119 = .ok (.goto 25, 3) := by decide +kernel
theorem dX4_cell_122 : decode cX4_cell 122 = .ok (.aload_n 0, 1) := by decide +kernel
theorem dX4_cell_123 : decode cX4_cell 123 = .ok (.iload_n 1, 1) := by decide +kernel
theorem dX4_cell_124 : decode cX4_cell 124 = .ok (.invokevirtual 213, 3) := by decide +kernel
theorem dX4_cell_127 : decode cX4_cell 127 = .ok (.goto 17, 3) := by decide +kernel
theorem dX4_cell_130 : decode cX4_cell 130 = .ok (.aload_n 0, 1) := by decide +kernel
theorem dX4_cell_131 : decode cX4_cell 131 = .ok (.iload_n 1, 1) := by decide +kernel
theorem dX4_cell_132 : decode cX4_cell 132 = .ok (.invokevirtual 216, 3) := by decide +kernel
theorem dX4_cell_135 : decode cX4_cell 135 = .ok (.goto 9, 3) := by decide +kernel
theorem dX4_cell_138 : decode cX4_cell 138 = .ok (.aload_n 0, 1) := by decide +kernel
theorem dX4_cell_139 : decode cX4_cell 139 = .ok (.bipush 6, 2) := by decide +kernel
theorem dX4_cell_141 : decode cX4_cell 141 = .ok (.putfield 26, 3) := by decide +kernel
theorem dX4_cell_144 : decode cX4_cell 144 = .ok (.return_, 1) := by decide +kernel

theorem dX4_startsCell_0 : decode cX4_startsCell 0 = .ok (.aload_n 0, 1) := by decide +kernel
theorem dX4_startsCell_1 : decode cX4_startsCell 1 = .ok (.getfield 26, 3) := by decide +kernel
theorem dX4_startsCell_4 : decode cX4_startsCell 4 = .ok (.lookupswitch 70 #[(1, 68), (40, 68), (42, 68), (45, 68), (47, 68), (60, 68), (62, 68)], 68) := by decide +kernel
theorem dX4_startsCell_72 : decode cX4_startsCell 72 = .ok (.iconst 1, 1) := by decide +kernel
theorem dX4_startsCell_73 : decode cX4_startsCell 73 = .ok (.ireturn, 1) := by decide +kernel
theorem dX4_startsCell_74 : decode cX4_startsCell 74 = .ok (.iconst 0, 1) := by decide +kernel
theorem dX4_startsCell_75 : decode cX4_startsCell 75 = .ok (.ireturn, 1) := by decide +kernel

theorem dX4_row_0 : decode cX4_row 0 = .ok (.aload_n 0, 1) := by decide +kernel
theorem dX4_row_1 : decode cX4_row 1 = .ok (.getfield 19, 3) := by decide +kernel
theorem dX4_row_4 : decode cX4_row 4 = .ok (.iload_n 1, 1) := by decide +kernel
theorem dX4_row_5 : decode cX4_row 5 = .ok (.bipush 24, 2) := by decide +kernel
theorem dX4_row_7 : decode cX4_row 7 = .ok (.aload_n 0, 1) := by decide +kernel
theorem dX4_row_8 : decode cX4_row 8 = .ok (.getfield 92, 3) := by decide +kernel
theorem dX4_row_11 : decode cX4_row 11 = .ok (.iconst 0, 1) := by decide +kernel
theorem dX4_row_12 : decode cX4_row 12 = .ok (.invokevirtual 50, 3) := by decide +kernel
theorem dX4_row_15 : decode cX4_row 15 = .ok (.istore_n 2, 1) := by decide +kernel
theorem dX4_row_16 : decode cX4_row 16 = .ok (.aload_n 0, 1) := by decide +kernel
theorem dX4_row_17 : decode cX4_row 17 = .ok (.iload_n 2, 1) := by decide +kernel
theorem dX4_row_18 : decode cX4_row 18 = .ok (.invokevirtual 210, 3) := by decide +kernel
theorem dX4_row_21 : decode cX4_row 21 = .ok (.iconst 0, 1) := by decide +kernel
theorem dX4_row_22 : decode cX4_row 22 = .ok (.istore_n 3, 1) := by decide +kernel
theorem dX4_row_23 : decode cX4_row 23 = .ok (.iload_n 3, 1) := by decide +kernel
theorem dX4_row_24 : decode cX4_row 24 = .ok (.sipush 8192, 3) := by decide +kernel
theorem dX4_row_27 : decode cX4_row 27 = .ok (.if_icmp .ge 61, 3) := by decide +kernel
theorem dX4_row_30 : decode cX4_row 30 = .ok (.aload_n 0, 1) := by decide +kernel
theorem dX4_row_31 : decode cX4_row 31 = .ok (.getfield 26, 3) := by decide +kernel
theorem dX4_row_34 : decode cX4_row 34 = .ok (.bipush 124, 2) := by decide +kernel
theorem dX4_row_36 : decode cX4_row 36 = .ok (.if_icmp .eq 10, 3) := by decide +kernel
theorem dX4_row_39 : decode cX4_row 39 = .ok (.aload_n 0, 1) := by decide +kernel
theorem dX4_row_40 : decode cX4_row 40 = .ok (.invokevirtual 207, 3) := by decide +kernel
theorem dX4_row_43 : decode cX4_row 43 = .ok (.ifCond .eq 45, 3) := by decide +kernel
theorem dX4_row_46 : decode cX4_row 46 = .ok (.aload_n 0, 1) := by decide +kernel
theorem dX4_row_47 : decode cX4_row 47 = .ok (.getfield 26, 3) := by decide +kernel
theorem dX4_row_50 : decode cX4_row 50 = .ok (.bipush 124, 2) := by decide +kernel
theorem dX4_row_52 : decode cX4_row 52 = .ok (.if_icmp .ne 25, 3) := by decide +kernel
theorem dX4_row_55 : decode cX4_row 55 = .ok (.aload_n 0, 1) := by decide +kernel
theorem dX4_row_56 : decode cX4_row 56 = .ok (.getfield 19, 3) := by decide +kernel
theorem dX4_row_59 : decode cX4_row 59 = .ok (.iload_n 2, 1) := by decide +kernel
theorem dX4_row_60 : decode cX4_row 60 = .ok (.bipush 29, 2) := by decide +kernel
theorem dX4_row_62 : decode cX4_row 62 = .ok (.aload_n 0, 1) := by decide +kernel
theorem dX4_row_63 : decode cX4_row 63 = .ok (.getfield 92, 3) := by decide +kernel
theorem dX4_row_66 : decode cX4_row 66 = .ok (.iconst 0, 1) := by decide +kernel
theorem dX4_row_67 : decode cX4_row 67 = .ok (.invokevirtual 50, 3) := by decide +kernel
theorem dX4_row_70 : decode cX4_row 70 = .ok (.pop, 1) := by decide +kernel
theorem dX4_row_71 : decode cX4_row 71 = .ok (.aload_n 0, 1) := by decide +kernel
theorem dX4_row_72 : decode cX4_row 72 = .ok (.bipush 124, 2) := by decide +kernel
theorem dX4_row_74 : decode cX4_row 74 = .ok (.invokevirtual 39, 3) := by decide +kernel
theorem dX4_row_77 : decode cX4_row 77 = .ok (.aload_n 0, 1) := by decide +kernel
theorem dX4_row_78 : decode cX4_row 78 = .ok (.iload_n 2, 1) := by decide +kernel
theorem dX4_row_79 : decode cX4_row 79 = .ok (.invokevirtual 210, 3) := by decide +kernel
theorem dX4_row_82 : decode cX4_row 82 = .ok (.iinc 3 1, 3) := by decide +kernel
theorem dX4_row_85 : decode cX4_row 85 = .ok (.goto (-62), 3) := by decide +kernel
theorem dX4_row_88 : decode cX4_row 88 = .ok (.aload_n 0, 1) := by decide +kernel
theorem dX4_row_89 : decode cX4_row 89 = .ok (.bipush 59, 2) := by decide +kernel
theorem dX4_row_91 : decode cX4_row 91 = .ok (.invokevirtual 39, 3) := by decide +kernel
theorem dX4_row_94 : decode cX4_row 94 = .ok (.return_, 1) := by decide +kernel

theorem dX4_ladder_0 : decode cX4_ladder 0 = .ok (.aload_n 0, 1) := by decide +kernel
theorem dX4_ladder_1 : decode cX4_ladder 1 = .ok (.getfield 19, 3) := by decide +kernel
theorem dX4_ladder_4 : decode cX4_ladder 4 = .ok (.iload_n 1, 1) := by decide +kernel
theorem dX4_ladder_5 : decode cX4_ladder 5 = .ok (.bipush 22, 2) := by decide +kernel
theorem dX4_ladder_7 : decode cX4_ladder 7 = .ok (.aload_n 0, 1) := by decide +kernel
theorem dX4_ladder_8 : decode cX4_ladder 8 = .ok (.getfield 92, 3) := by decide +kernel
theorem dX4_ladder_11 : decode cX4_ladder 11 = .ok (.iconst 0, 1) := by decide +kernel
theorem dX4_ladder_12 : decode cX4_ladder 12 = .ok (.invokevirtual 50, 3) := by decide +kernel
theorem dX4_ladder_15 : decode cX4_ladder 15 = .ok (.istore_n 2, 1) := by decide +kernel
theorem dX4_ladder_16 : decode cX4_ladder 16 = .ok (.aload_n 0, 1) := by decide +kernel
theorem dX4_ladder_17 : decode cX4_ladder 17 = .ok (.sipush 293, 3) := by decide +kernel
theorem dX4_ladder_20 : decode cX4_ladder 20 = .ok (.invokevirtual 39, 3) := by decide +kernel
theorem dX4_ladder_23 : decode cX4_ladder 23 = .ok (.iconst 0, 1) := by decide +kernel
theorem dX4_ladder_24 : decode cX4_ladder 24 = .ok (.istore_n 3, 1) := by decide +kernel
theorem dX4_ladder_25 : decode cX4_ladder 25 = .ok (.iload_n 3, 1) := by decide +kernel
theorem dX4_ladder_26 : decode cX4_ladder 26 = .ok (.sipush 8192, 3) := by decide +kernel
theorem dX4_ladder_29 : decode cX4_ladder 29 = .ok (.if_icmp .ge 86, 3) := by decide +kernel
theorem dX4_ladder_32 : decode cX4_ladder 32 = .ok (.aload_n 0, 1) := by decide +kernel
theorem dX4_ladder_33 : decode cX4_ladder 33 = .ok (.getfield 26, 3) := by decide +kernel
theorem dX4_ladder_36 : decode cX4_ladder 36 = .ok (.sipush 295, 3) := by decide +kernel
theorem dX4_ladder_39 : decode cX4_ladder 39 = .ok (.if_icmp .ne 76, 3) := by decide +kernel
theorem dX4_ladder_42 : decode cX4_ladder 42 = .ok (.aload_n 0, 1) := by decide +kernel
theorem dX4_ladder_43 : decode cX4_ladder 43 = .ok (.getfield 19, 3) := by decide +kernel
theorem dX4_ladder_46 : decode cX4_ladder 46 = .ok (.iload_n 2, 1) := by decide +kernel
theorem dX4_ladder_47 : decode cX4_ladder 47 = .ok (.bipush 23, 2) := by decide +kernel
theorem dX4_ladder_49 : decode cX4_ladder 49 = .ok (.aload_n 0, 1) := by decide +kernel
theorem dX4_ladder_50 : decode cX4_ladder 50 = .ok (.getfield 92, 3) := by decide +kernel
theorem dX4_ladder_53 : decode cX4_ladder 53 = .ok (.iconst 0, 1) := by decide +kernel
theorem dX4_ladder_54 : decode cX4_ladder 54 = .ok (.invokevirtual 50, 3) := by decide +kernel
theorem dX4_ladder_57 : decode cX4_ladder 57 = .ok (.istore 4, 2) := by decide +kernel
theorem dX4_ladder_59 : decode cX4_ladder 59 = .ok (.aload_n 0, 1) := by decide +kernel
theorem dX4_ladder_60 : decode cX4_ladder 60 = .ok (.sipush 295, 3) := by decide +kernel
theorem dX4_ladder_63 : decode cX4_ladder 63 = .ok (.invokevirtual 39, 3) := by decide +kernel
theorem dX4_ladder_66 : decode cX4_ladder 66 = .ok (.aload_n 0, 1) := by decide +kernel
theorem dX4_ladder_67 : decode cX4_ladder 67 = .ok (.iload 4, 2) := by decide +kernel
theorem dX4_ladder_69 : decode cX4_ladder 69 = .ok (.invokevirtual 204, 3) := by decide +kernel
theorem dX4_ladder_72 : decode cX4_ladder 72 = .ok (.iconst 0, 1) := by decide +kernel
theorem dX4_ladder_73 : decode cX4_ladder 73 = .ok (.istore 5, 2) := by decide +kernel
theorem dX4_ladder_75 : decode cX4_ladder 75 = .ok (.iload 5, 2) := by decide +kernel
theorem dX4_ladder_77 : decode cX4_ladder 77 = .ok (.sipush 8192, 3) := by decide +kernel
theorem dX4_ladder_80 : decode cX4_ladder 80 = .ok (.if_icmp .ge 22, 3) := by decide +kernel
theorem dX4_ladder_83 : decode cX4_ladder 83 = .ok (.aload_n 0, 1) := by decide +kernel
theorem dX4_ladder_84 : decode cX4_ladder 84 = .ok (.invokevirtual 207, 3) := by decide +kernel
theorem dX4_ladder_87 : decode cX4_ladder 87 = .ok (.ifCond .eq 15, 3) := by decide +kernel
theorem dX4_ladder_90 : decode cX4_ladder 90 = .ok (.aload_n 0, 1) := by decide +kernel
theorem dX4_ladder_91 : decode cX4_ladder 91 = .ok (.iload 4, 2) := by decide +kernel
theorem dX4_ladder_93 : decode cX4_ladder 93 = .ok (.invokevirtual 204, 3) := by decide +kernel
theorem dX4_ladder_96 : decode cX4_ladder 96 = .ok (.iinc 5 1, 3) := by decide +kernel
theorem dX4_ladder_99 : decode cX4_ladder 99 = .ok (.goto (-24), 3) := by decide +kernel
theorem dX4_ladder_102 : decode cX4_ladder 102 = .ok (.aload_n 0, 1) := by decide +kernel
theorem dX4_ladder_103 : decode cX4_ladder 103 = .ok (.sipush 296, 3) := by decide +kernel
theorem dX4_ladder_106 : decode cX4_ladder 106 = .ok (.invokevirtual 39, 3) := by decide +kernel
theorem dX4_ladder_109 : decode cX4_ladder 109 = .ok (.iinc 3 1, 3) := by decide +kernel
theorem dX4_ladder_112 : decode cX4_ladder 112 = .ok (.goto (-87), 3) := by decide +kernel
theorem dX4_ladder_115 : decode cX4_ladder 115 = .ok (.aload_n 0, 1) := by decide +kernel
theorem dX4_ladder_116 : decode cX4_ladder 116 = .ok (.sipush 294, 3) := by decide +kernel
theorem dX4_ladder_119 : decode cX4_ladder 119 = .ok (.invokevirtual 39, 3) := by decide +kernel
theorem dX4_ladder_122 : decode cX4_ladder 122 = .ok (.return_, 1) := by decide +kernel

theorem dX4_type_0 : decode cX4_type 0 = .ok (.aload_n 0, 1) := by decide +kernel
theorem dX4_type_1 : decode cX4_type 1 = .ok (.getfield 26, 3) := by decide +kernel
theorem dX4_type_4 : decode cX4_type 4 = .ok (.iconst 1, 1) := by decide +kernel
theorem dX4_type_5 : decode cX4_type 5 = .ok (.if_icmp .ne 30, 3) := by decide +kernel
theorem dX4_type_8 : decode cX4_type 8 = .ok (.aload_n 0, 1) := by decide +kernel
theorem dX4_type_9 : decode cX4_type 9 = .ok (.getfield 19, 3) := by decide +kernel
theorem dX4_type_12 : decode cX4_type 12 = .ok (.iload_n 1, 1) := by decide +kernel
theorem dX4_type_13 : decode cX4_type 13 = .ok (.bipush 10, 2) := by decide +kernel
theorem dX4_type_15 : decode cX4_type 15 = .ok (.aload_n 0, 1) := by decide +kernel
theorem dX4_type_16 : decode cX4_type 16 = .ok (.getfield 92, 3) := by decide +kernel
theorem dX4_type_19 : decode cX4_type 19 = .ok (.aload_n 0, 1) := by decide +kernel
theorem dX4_type_20 : decode cX4_type 20 = .ok (.getfield 110, 3) := by decide +kernel
theorem dX4_type_23 : decode cX4_type 23 = .ok (.invokevirtual 50, 3) := by decide +kernel
theorem dX4_type_26 : decode cX4_type 26 = .ok (.pop, 1) := by decide +kernel
theorem dX4_type_27 : decode cX4_type 27 = .ok (.aload_n 0, 1) := by decide +kernel
theorem dX4_type_28 : decode cX4_type 28 = .ok (.iconst 1, 1) := by decide +kernel
theorem dX4_type_29 : decode cX4_type 29 = .ok (.invokevirtual 39, 3) := by decide +kernel
theorem dX4_type_32 : decode cX4_type 32 = .ok (.goto 85, 3) := by decide +kernel
theorem dX4_type_35 : decode cX4_type 35 = .ok (.aload_n 0, 1) := by decide +kernel
theorem dX4_type_36 : decode cX4_type 36 = .ok (.getfield 26, 3) := by decide +kernel
theorem dX4_type_39 : decode cX4_type 39 = .ok (.sipush 270, 3) := by decide +kernel
theorem dX4_type_42 : decode cX4_type 42 = .ok (.if_icmp .ne 70, 3) := by decide +kernel
theorem dX4_type_45 : decode cX4_type 45 = .ok (.aload_n 0, 1) := by decide +kernel
theorem dX4_type_46 : decode cX4_type 46 = .ok (.getfield 19, 3) := by decide +kernel
theorem dX4_type_49 : decode cX4_type 49 = .ok (.iload_n 1, 1) := by decide +kernel
theorem dX4_type_50 : decode cX4_type 50 = .ok (.bipush 9, 2) := by decide +kernel
theorem dX4_type_52 : decode cX4_type 52 = .ok (.aload_n 0, 1) := by decide +kernel
theorem dX4_type_53 : decode cX4_type 53 = .ok (.getfield 92, 3) := by decide +kernel
theorem dX4_type_56 : decode cX4_type 56 = .ok (.iconst 0, 1) := by decide +kernel
theorem dX4_type_57 : decode cX4_type 57 = .ok (.invokevirtual 50, 3) := by decide +kernel
theorem dX4_type_60 : decode cX4_type 60 = .ok (.istore_n 2, 1) := by decide +kernel
theorem dX4_type_61 : decode cX4_type 61 = .ok (.aload_n 0, 1) := by decide +kernel
theorem dX4_type_62 : decode cX4_type 62 = .ok (.sipush 270, 3) := by decide +kernel
theorem dX4_type_65 : decode cX4_type 65 = .ok (.invokevirtual 39, 3) := by decide +kernel
theorem dX4_type_68 : decode cX4_type 68 = .ok (.aload_n 0, 1) := by decide +kernel
theorem dX4_type_69 : decode cX4_type 69 = .ok (.bipush 91, 2) := by decide +kernel
theorem dX4_type_71 : decode cX4_type 71 = .ok (.invokevirtual 39, 3) := by decide +kernel
theorem dX4_type_74 : decode cX4_type 74 = .ok (.aload_n 0, 1) := by decide +kernel
theorem dX4_type_75 : decode cX4_type 75 = .ok (.iload_n 2, 1) := by decide +kernel
theorem dX4_type_76 : decode cX4_type 76 = .ok (.invokevirtual 139, 3) := by decide +kernel
theorem dX4_type_79 : decode cX4_type 79 = .ok (.aload_n 0, 1) := by decide +kernel
theorem dX4_type_80 : decode cX4_type 80 = .ok (.sipush 11822, 3) := by decide +kernel
theorem dX4_type_83 : decode cX4_type 83 = .ok (.invokevirtual 39, 3) := by decide +kernel
theorem dX4_type_86 : decode cX4_type 86 = .ok (.aload_n 0, 1) := by decide +kernel
theorem dX4_type_87 : decode cX4_type 87 = .ok (.iload_n 2, 1) := by decide +kernel
theorem dX4_type_88 : decode cX4_type 88 = .ok (.invokevirtual 139, 3) := by decide +kernel
theorem dX4_type_91 : decode cX4_type 91 = .ok (.aload_n 0, 1) := by decide +kernel
theorem dX4_type_92 : decode cX4_type 92 = .ok (.bipush 93, 2) := by decide +kernel
theorem dX4_type_94 : decode cX4_type 94 = .ok (.invokevirtual 39, 3) := by decide +kernel
theorem dX4_type_97 : decode cX4_type 97 = .ok (.aload_n 0, 1) := by decide +kernel
theorem dX4_type_98 : decode cX4_type 98 = .ok (.sipush 271, 3) := by decide +kernel
theorem dX4_type_101 : decode cX4_type 101 = .ok (.invokevirtual 39, 3) := by decide +kernel
theorem dX4_type_104 : decode cX4_type 104 = .ok (.aload_n 0, 1) := by decide +kernel
theorem dX4_type_105 : decode cX4_type 105 = .ok (.iload_n 2, 1) := by decide +kernel
theorem dX4_type_106 : decode cX4_type 106 = .ok (.invokevirtual 122, 3) := by decide +kernel
theorem dX4_type_109 : decode cX4_type 109 = .ok (.goto 8, 3) := by decide +kernel
theorem dX4_type_112 : decode cX4_type 112 = .ok (.aload_n 0, 1) := by decide +kernel
theorem dX4_type_113 : decode cX4_type 113 = .ok (.iload_n 1, 1) := by decide +kernel
theorem dX4_type_114 : decode cX4_type 114 = .ok (.invokevirtual 122, 3) := by decide +kernel
theorem dX4_type_117 : decode cX4_type 117 = .ok (.return_, 1) := by decide +kernel

theorem dX4_declaration_0 : decode cX4_declaration 0 = .ok (.aload_n 0, 1) := by decide +kernel
theorem dX4_declaration_1 : decode cX4_declaration 1 = .ok (.getfield 19, 3) := by decide +kernel
theorem dX4_declaration_4 : decode cX4_declaration 4 = .ok (.iload_n 1, 1) := by decide +kernel
theorem dX4_declaration_5 : decode cX4_declaration 5 = .ok (.iconst 5, 1) := by decide +kernel
theorem dX4_declaration_6 : decode cX4_declaration 6 = .ok (.aload_n 0, 1) := by decide +kernel
theorem dX4_declaration_7 : decode cX4_declaration 7 = .ok (.getfield 92, 3) := by decide +kernel
theorem dX4_declaration_10 : decode cX4_declaration 10 = .ok (.iconst 0, 1) := by decide +kernel
theorem dX4_declaration_11 : decode cX4_declaration 11 = .ok (.invokevirtual 50, 3) := by decide +kernel
theorem dX4_declaration_14 : decode cX4_declaration 14 = .ok (.istore_n 2, 1) := by decide +kernel
theorem dX4_declaration_15 : decode cX4_declaration 15 = .ok (.aload_n 0, 1) := by decide +kernel
theorem dX4_declaration_16 : decode cX4_declaration 16 = .ok (.iload_n 2, 1) := by decide +kernel
theorem dX4_declaration_17 : decode cX4_declaration 17 = .ok (.invokevirtual 131, 3) := by decide +kernel
theorem dX4_declaration_20 : decode cX4_declaration 20 = .ok (.iconst 0, 1) := by decide +kernel
theorem dX4_declaration_21 : decode cX4_declaration 21 = .ok (.istore_n 3, 1) := by decide +kernel
theorem dX4_declaration_22 : decode cX4_declaration 22 = .ok (.iload_n 3, 1) := by decide +kernel
theorem dX4_declaration_23 : decode cX4_declaration 23 = .ok (.sipush 8192, 3) := by decide +kernel
theorem dX4_declaration_26 : decode cX4_declaration 26 = .ok (.if_icmp .ge 29, 3) := by decide +kernel
theorem dX4_declaration_29 : decode cX4_declaration 29 = .ok (.aload_n 0, 1) := by decide +kernel
theorem dX4_declaration_30 : decode cX4_declaration 30 = .ok (.getfield 26, 3) := by decide +kernel
theorem dX4_declaration_33 : decode cX4_declaration 33 = .ok (.bipush 44, 2) := by decide +kernel
theorem dX4_declaration_35 : decode cX4_declaration 35 = .ok (.if_icmp .ne 20, 3) := by decide +kernel
theorem dX4_declaration_38 : decode cX4_declaration 38 = .ok (.aload_n 0, 1) := by decide +kernel
theorem dX4_declaration_39 : decode cX4_declaration 39 = .ok (.bipush 44, 2) := by decide +kernel
theorem dX4_declaration_41 : decode cX4_declaration 41 = .ok (.invokevirtual 39, 3) := by decide +kernel
theorem dX4_declaration_44 : decode cX4_declaration 44 = .ok (.aload_n 0, 1) := by decide +kernel
theorem dX4_declaration_45 : decode cX4_declaration 45 = .ok (.iload_n 2, 1) := by decide +kernel
theorem dX4_declaration_46 : decode cX4_declaration 46 = .ok (.invokevirtual 131, 3) := by decide +kernel
theorem dX4_declaration_49 : decode cX4_declaration 49 = .ok (.iinc 3 1, 3) := by decide +kernel
theorem dX4_declaration_52 : decode cX4_declaration 52 = .ok (.goto (-30), 3) := by decide +kernel
theorem dX4_declaration_55 : decode cX4_declaration 55 = .ok (.aload_n 0, 1) := by decide +kernel
theorem dX4_declaration_56 : decode cX4_declaration 56 = .ok (.getfield 26, 3) := by decide +kernel
theorem dX4_declaration_59 : decode cX4_declaration 59 = .ok (.sipush 266, 3) := by decide +kernel
theorem dX4_declaration_62 : decode cX4_declaration 62 = .ok (.if_icmp .ne 34, 3) := by decide +kernel
theorem dX4_declaration_65 : decode cX4_declaration 65 = .ok (.aload_n 0, 1) := by decide +kernel
theorem dX4_declaration_66 : decode cX4_declaration 66 = .ok (.sipush 266, 3) := by decide +kernel
theorem dX4_declaration_69 : decode cX4_declaration 69 = .ok (.invokevirtual 39, 3) := by decide +kernel
theorem dX4_declaration_72 : decode cX4_declaration 72 = .ok (.aload_n 0, 1) := by decide +kernel
theorem dX4_declaration_73 : decode cX4_declaration 73 = .ok (.getfield 19, 3) := by decide +kernel
theorem dX4_declaration_76 : decode cX4_declaration 76 = .ok (.iload_n 2, 1) := by decide +kernel
theorem dX4_declaration_77 : decode cX4_declaration 77 = .ok (.bipush 7, 2) := by decide +kernel
theorem dX4_declaration_79 : decode cX4_declaration 79 = .ok (.aload_n 0, 1) := by decide +kernel
theorem dX4_declaration_80 : decode cX4_declaration 80 = .ok (.getfield 92, 3) := by decide +kernel
theorem dX4_declaration_83 : decode cX4_declaration 83 = .ok (.aload_n 0, 1) := by decide +kernel
theorem dX4_declaration_84 : decode cX4_declaration 84 = .ok (.getfield 110, 3) := by decide +kernel
theorem dX4_declaration_87 : decode cX4_declaration 87 = .ok (.invokevirtual 50, 3) := by decide +kernel
theorem dX4_declaration_90 : decode cX4_declaration 90 = .ok (.pop, 1) := by decide +kernel
theorem dX4_declaration_91 : decode cX4_declaration 91 = .ok (.aload_n 0, 1) := by decide +kernel
theorem dX4_declaration_92 : decode cX4_declaration 92 = .ok (.iconst 3, 1) := by decide +kernel
theorem dX4_declaration_93 : decode cX4_declaration 93 = .ok (.invokevirtual 39, 3) := by decide +kernel
theorem dX4_declaration_96 : decode cX4_declaration 96 = .ok (.aload_n 0, 1) := by decide +kernel
theorem dX4_declaration_97 : decode cX4_declaration 97 = .ok (.bipush 58, 2) := by decide +kernel
theorem dX4_declaration_99 : decode cX4_declaration 99 = .ok (.invokevirtual 39, 3) := by decide +kernel
theorem dX4_declaration_102 : decode cX4_declaration 102 = .ok (.aload_n 0, 1) := by decide +kernel
theorem dX4_declaration_103 : decode cX4_declaration 103 = .ok (.iload_n 2, 1) := by decide +kernel
theorem dX4_declaration_104 : decode cX4_declaration 104 = .ok (.invokevirtual 134, 3) := by decide +kernel
theorem dX4_declaration_107 : decode cX4_declaration 107 = .ok (.aload_n 0, 1) := by decide +kernel
theorem dX4_declaration_108 : decode cX4_declaration 108 = .ok (.getfield 26, 3) := by decide +kernel
theorem dX4_declaration_111 : decode cX4_declaration 111 = .ok (.sipush 14909, 3) := by decide +kernel
theorem dX4_declaration_114 : decode cX4_declaration 114 = .ok (.if_icmp .ne 15, 3) := by decide +kernel
theorem dX4_declaration_117 : decode cX4_declaration 117 = .ok (.aload_n 0, 1) := by decide +kernel
theorem dX4_declaration_118 : decode cX4_declaration 118 = .ok (.sipush 14909, 3) := by decide +kernel
theorem dX4_declaration_121 : decode cX4_declaration 121 = .ok (.invokevirtual 39, 3) := by decide +kernel
theorem dX4_declaration_124 : decode cX4_declaration 124 = .ok (.aload_n 0, 1) := by decide +kernel
theorem dX4_declaration_125 : decode cX4_declaration 125 = .ok (.iload_n 2, 1) := by decide +kernel
theorem dX4_declaration_126 : decode cX4_declaration 126 = .ok (.invokevirtual 139, 3) := by decide +kernel
theorem dX4_declaration_129 : decode cX4_declaration 129 = .ok (.aload_n 0, 1) := by decide +kernel
theorem dX4_declaration_130 : decode cX4_declaration 130 = .ok (.bipush 59, 2) := by decide +kernel
theorem dX4_declaration_132 : decode cX4_declaration 132 = .ok (.invokevirtual 39, 3) := by decide +kernel
theorem dX4_declaration_135 : decode cX4_declaration 135 = .ok (.return_, 1) := by decide +kernel

theorem dX4_startsSection_0 : decode cX4_startsSection 0 = .ok (.aload_n 0, 1) := by decide +kernel
theorem dX4_startsSection_1 : decode cX4_startsSection 1 = .ok (.getfield 26, 3) := by decide +kernel
theorem dX4_startsSection_4 : decode cX4_startsSection 4 = .ok (.sipush 262, 3) := by decide +kernel
theorem dX4_startsSection_7 : decode cX4_startsSection 7 = .ok (.if_icmp .eq 23, 3) := by decide +kernel
theorem dX4_startsSection_10 : decode cX4_startsSection 10 = .ok (.aload_n 0, 1) := by decide +kernel
theorem dX4_startsSection_11 : decode cX4_startsSection 11 = .ok (.getfield 26, 3) := by decide +kernel
theorem dX4_startsSection_14 : decode cX4_startsSection 14 = .ok (.sipush 263, 3) := by decide +kernel
theorem dX4_startsSection_17 : decode cX4_startsSection 17 = .ok (.if_icmp .eq 13, 3) := by decide +kernel
theorem dX4_startsSection_20 : decode cX4_startsSection 20 = .ok (.aload_n 0, 1) := by decide +kernel
theorem dX4_startsSection_21 : decode cX4_startsSection 21 = .ok (.getfield 26, 3) := by decide +kernel
theorem dX4_startsSection_24 : decode cX4_startsSection 24 = .ok (.sipush 264, 3) := by decide +kernel
theorem dX4_startsSection_27 : decode cX4_startsSection 27 = .ok (.if_icmp .ne 7, 3) := by decide +kernel
theorem dX4_startsSection_30 : decode cX4_startsSection 30 = .ok (.iconst 1, 1) := by decide +kernel
theorem dX4_startsSection_31 : decode cX4_startsSection 31 = .ok (.goto 4, 3) := by decide +kernel
theorem dX4_startsSection_34 : decode cX4_startsSection 34 = .ok (.iconst 0, 1) := by decide +kernel
theorem dX4_startsSection_35 : decode cX4_startsSection 35 = .ok (.ireturn, 1) := by decide +kernel

theorem dX4_sections_0 : decode cX4_sections 0 = .ok (.iconst 0, 1) := by decide +kernel
theorem dX4_sections_1 : decode cX4_sections 1 = .ok (.istore_n 2, 1) := by decide +kernel
theorem dX4_sections_2 : decode cX4_sections 2 = .ok (.iload_n 2, 1) := by decide +kernel
theorem dX4_sections_3 : decode cX4_sections 3 = .ok (.sipush 8192, 3) := by decide +kernel
theorem dX4_sections_6 : decode cX4_sections 6 = .ok (.if_icmp .ge 83, 3) := by decide +kernel
theorem dX4_sections_9 : decode cX4_sections 9 = .ok (.aload_n 0, 1) := by decide +kernel
theorem dX4_sections_10 : decode cX4_sections 10 = .ok (.invokevirtual 125, 3) := by decide +kernel
theorem dX4_sections_13 : decode cX4_sections 13 = .ok (.ifCond .eq 76, 3) := by decide +kernel
theorem dX4_sections_16 : decode cX4_sections 16 = .ok (.aload_n 0, 1) := by decide +kernel
theorem dX4_sections_17 : decode cX4_sections 17 = .ok (.getfield 19, 3) := by decide +kernel
theorem dX4_sections_20 : decode cX4_sections 20 = .ok (.iload_n 1, 1) := by decide +kernel
theorem dX4_sections_21 : decode cX4_sections 21 = .ok (.iconst 4, 1) := by decide +kernel
theorem dX4_sections_22 : decode cX4_sections 22 = .ok (.aload_n 0, 1) := by decide +kernel
theorem dX4_sections_23 : decode cX4_sections 23 = .ok (.getfield 92, 3) := by decide +kernel
theorem dX4_sections_26 : decode cX4_sections 26 = .ok (.aload_n 0, 1) := by decide +kernel
theorem dX4_sections_27 : decode cX4_sections 27 = .ok (.getfield 26, 3) := by decide +kernel
theorem dX4_sections_30 : decode cX4_sections 30 = .ok (.sipush 262, 3) := by decide +kernel
theorem dX4_sections_33 : decode cX4_sections 33 = .ok (.isub, 1) := by decide +kernel
theorem dX4_sections_34 : decode cX4_sections 34 = .ok (.invokevirtual 50, 3) := by decide +kernel
theorem dX4_sections_37 : decode cX4_sections 37 = .ok (.istore_n 3, 1) := by decide +kernel
theorem dX4_sections_38 : decode cX4_sections 38 = .ok (.aload_n 0, 1) := by decide +kernel
theorem dX4_sections_39 : decode cX4_sections 39 = .ok (.aload_n 0, 1) := by decide +kernel
theorem dX4_sections_40 : decode cX4_sections 40 = .ok (.getfield 26, 3) := by decide +kernel
theorem dX4_sections_43 : decode cX4_sections 43 = .ok (.invokevirtual 39, 3) := by decide +kernel
theorem dX4_sections_46 : decode cX4_sections 46 = .ok (.iconst 0, 1) := by decide +kernel
theorem dX4_sections_47 : decode cX4_sections 47 = .ok (.istore 4, 2) := by decide +kernel
theorem dX4_sections_49 : decode cX4_sections 49 = .ok (.iload 4, 2) := by decide +kernel
theorem dX4_sections_51 : decode cX4_sections 51 = .ok (.sipush 8192, 3) := by decide +kernel
theorem dX4_sections_54 : decode cX4_sections 54 = .ok (.if_icmp .ge 22, 3) := by decide +kernel
theorem dX4_sections_57 : decode cX4_sections 57 = .ok (.aload_n 0, 1) := by decide +kernel
theorem dX4_sections_58 : decode cX4_sections 58 = .ok (.getfield 26, 3) := by decide +kernel
theorem dX4_sections_61 : decode cX4_sections 61 = .ok (.iconst 1, 1) := by decide +kernel
theorem dX4_sections_62 : decode cX4_sections 62 = .ok (.if_icmp .ne 14, 3) := by decide +kernel
theorem dX4_sections_65 : decode cX4_sections 65 = .ok (.aload_n 0, 1) := by decide +kernel
theorem dX4_sections_66 : decode cX4_sections 66 = .ok (.iload_n 3, 1) := by decide +kernel
theorem dX4_sections_67 : decode cX4_sections 67 = .ok (.invokevirtual 128, 3) := by decide +kernel
theorem dX4_sections_70 : decode cX4_sections 70 = .ok (.iinc 4 1, 3) := by decide +kernel
theorem dX4_sections_73 : decode cX4_sections 73 = .ok (.goto (-24), 3) := by decide +kernel
theorem dX4_sections_76 : decode cX4_sections 76 = .ok (.aload_n 0, 1) := by decide +kernel
theorem dX4_sections_77 : decode cX4_sections 77 = .ok (.sipush 265, 3) := by decide +kernel
theorem dX4_sections_80 : decode cX4_sections 80 = .ok (.invokevirtual 39, 3) := by decide +kernel
theorem dX4_sections_83 : decode cX4_sections 83 = .ok (.iinc 2 1, 3) := by decide +kernel
theorem dX4_sections_86 : decode cX4_sections 86 = .ok (.goto (-84), 3) := by decide +kernel
theorem dX4_sections_89 : decode cX4_sections 89 = .ok (.return_, 1) := by decide +kernel

theorem dX4_startsBlock_0 : decode cX4_startsBlock 0 = .ok (.aload_n 0, 1) := by decide +kernel
theorem dX4_startsBlock_1 : decode cX4_startsBlock 1 = .ok (.getfield 26, 3) := by decide +kernel
theorem dX4_startsBlock_4 : decode cX4_startsBlock 4 = .ok (.sipush 256, 3) := by decide +kernel
theorem dX4_startsBlock_7 : decode cX4_startsBlock 7 = .ok (.if_icmp .eq 23, 3) := by decide +kernel
theorem dX4_startsBlock_10 : decode cX4_startsBlock 10 = .ok (.aload_n 0, 1) := by decide +kernel
theorem dX4_startsBlock_11 : decode cX4_startsBlock 11 = .ok (.getfield 26, 3) := by decide +kernel
theorem dX4_startsBlock_14 : decode cX4_startsBlock 14 = .ok (.sipush 258, 3) := by decide +kernel
theorem dX4_startsBlock_17 : decode cX4_startsBlock 17 = .ok (.if_icmp .eq 13, 3) := by decide +kernel
theorem dX4_startsBlock_20 : decode cX4_startsBlock 20 = .ok (.aload_n 0, 1) := by decide +kernel
theorem dX4_startsBlock_21 : decode cX4_startsBlock 21 = .ok (.getfield 26, 3) := by decide +kernel
theorem dX4_startsBlock_24 : decode cX4_startsBlock 24 = .ok (.sipush 260, 3) := by decide +kernel
theorem dX4_startsBlock_27 : decode cX4_startsBlock 27 = .ok (.if_icmp .ne 7, 3) := by decide +kernel
theorem dX4_startsBlock_30 : decode cX4_startsBlock 30 = .ok (.iconst 1, 1) := by decide +kernel
theorem dX4_startsBlock_31 : decode cX4_startsBlock 31 = .ok (.goto 4, 3) := by decide +kernel
theorem dX4_startsBlock_34 : decode cX4_startsBlock 34 = .ok (.iconst 0, 1) := by decide +kernel
theorem dX4_startsBlock_35 : decode cX4_startsBlock 35 = .ok (.ireturn, 1) := by decide +kernel

theorem dX4_tellFault_0 : decode cX4_tellFault 0 = .ok (.aload_n 0, 1) := by decide +kernel
theorem dX4_tellFault_1 : decode cX4_tellFault 1 = .ok (.getfield 15, 3) := by decide +kernel
theorem dX4_tellFault_4 : decode cX4_tellFault 4 = .ok (.aload_n 0, 1) := by decide +kernel
theorem dX4_tellFault_5 : decode cX4_tellFault 5 = .ok (.getfield 23, 3) := by decide +kernel
theorem dX4_tellFault_8 : decode cX4_tellFault 8 = .ok (.invokevirtual 81, 3) := by decide +kernel
theorem dX4_tellFault_11 : decode cX4_tellFault 11 = .ok (.istore_n 1, 1) := by decide +kernel
theorem dX4_tellFault_12 : decode cX4_tellFault 12 = .ok (.iload_n 1, 1) := by decide +kernel
theorem dX4_tellFault_13 : decode cX4_tellFault 13 = .ok (.bipush 6, 2) := by decide +kernel
theorem dX4_tellFault_15 : decode cX4_tellFault 15 = .ok (.if_icmp .ne 11, 3) := by decide +kernel
theorem dX4_tellFault_18 : decode cX4_tellFault 18 = .ok (.aload_n 0, 1) := by decide +kernel
theorem dX4_tellFault_19 : decode cX4_tellFault 19 = .ok (.iconst 0, 1) := by decide +kernel
theorem dX4_tellFault_20 : decode cX4_tellFault 20 = .ok (.putfield 83, 3) := by decide +kernel
theorem dX4_tellFault_23 : decode cX4_tellFault 23 = .ok (.goto 44, 3) := by decide +kernel
theorem dX4_tellFault_26 : decode cX4_tellFault 26 = .ok (.iload_n 1, 1) := by decide +kernel
theorem dX4_tellFault_27 : decode cX4_tellFault 27 = .ok (.iconst 5, 1) := by decide +kernel
theorem dX4_tellFault_28 : decode cX4_tellFault 28 = .ok (.if_icmp .ne 21, 3) := by decide +kernel
theorem dX4_tellFault_31 : decode cX4_tellFault 31 = .ok (.aload_n 0, 1) := by decide +kernel
theorem dX4_tellFault_32 : decode cX4_tellFault 32 = .ok (.aload_n 0, 1) := by decide +kernel
theorem dX4_tellFault_33 : decode cX4_tellFault 33 = .ok (.getfield 15, 3) := by decide +kernel
theorem dX4_tellFault_36 : decode cX4_tellFault 36 = .ok (.aload_n 0, 1) := by decide +kernel
theorem dX4_tellFault_37 : decode cX4_tellFault 37 = .ok (.getfield 23, 3) := by decide +kernel
theorem dX4_tellFault_40 : decode cX4_tellFault 40 = .ok (.invokevirtual 86, 3) := by decide +kernel
theorem dX4_tellFault_43 : decode cX4_tellFault 43 = .ok (.putfield 83, 3) := by decide +kernel
theorem dX4_tellFault_46 : decode cX4_tellFault 46 = .ok (.goto 21, 3) := by decide +kernel
theorem dX4_tellFault_49 : decode cX4_tellFault 49 = .ok (.aload_n 0, 1) := by decide +kernel
theorem dX4_tellFault_50 : decode cX4_tellFault 50 = .ok (.aload_n 0, 1) := by decide +kernel
theorem dX4_tellFault_51 : decode cX4_tellFault 51 = .ok (.getfield 35, 3) := by decide +kernel
theorem dX4_tellFault_54 : decode cX4_tellFault 54 = .ok (.ifCond .eq 8, 3) := by decide +kernel
theorem dX4_tellFault_57 : decode cX4_tellFault 57 = .ok (.bipush 7, 2) := by decide +kernel
theorem dX4_tellFault_59 : decode cX4_tellFault 59 = .ok (.goto 5, 3) := by decide +kernel
theorem dX4_tellFault_62 : decode cX4_tellFault 62 = .ok (.bipush 6, 2) := by decide +kernel
theorem dX4_tellFault_64 : decode cX4_tellFault 64 = .ok (.putfield 83, 3) := by decide +kernel
theorem dX4_tellFault_67 : decode cX4_tellFault 67 = .ok (.aload_n 0, 1) := by decide +kernel
theorem dX4_tellFault_68 : decode cX4_tellFault 68 = .ok (.aload_n 0, 1) := by decide +kernel
theorem dX4_tellFault_69 : decode cX4_tellFault 69 = .ok (.getfield 15, 3) := by decide +kernel
theorem dX4_tellFault_72 : decode cX4_tellFault 72 = .ok (.aload_n 0, 1) := by decide +kernel
theorem dX4_tellFault_73 : decode cX4_tellFault 73 = .ok (.getfield 23, 3) := by decide +kernel
theorem dX4_tellFault_76 : decode cX4_tellFault 76 = .ok (.invokevirtual 89, 3) := by decide +kernel
theorem dX4_tellFault_79 : decode cX4_tellFault 79 = .ok (.putfield 9, 3) := by decide +kernel
theorem dX4_tellFault_82 : decode cX4_tellFault 82 = .ok (.return_, 1) := by decide +kernel

theorem dX4_parse_0 : decode cX4_parse 0 = .ok (.aload_n 0, 1) := by decide +kernel
theorem dX4_parse_1 : decode cX4_parse 1 = .ok (.iconst (-1), 1) := by decide +kernel
theorem dX4_parse_2 : decode cX4_parse 2 = .ok (.putfield 23, 3) := by decide +kernel
theorem dX4_parse_5 : decode cX4_parse 5 = .ok (.aload_n 0, 1) := by decide +kernel
theorem dX4_parse_6 : decode cX4_parse 6 = .ok (.iconst (-1), 1) := by decide +kernel
theorem dX4_parse_7 : decode cX4_parse 7 = .ok (.putfield 26, 3) := by decide +kernel
theorem dX4_parse_10 : decode cX4_parse 10 = .ok (.aload_n 0, 1) := by decide +kernel
theorem dX4_parse_11 : decode cX4_parse 11 = .ok (.iconst 0, 1) := by decide +kernel
theorem dX4_parse_12 : decode cX4_parse 12 = .ok (.putfield 29, 3) := by decide +kernel
theorem dX4_parse_15 : decode cX4_parse 15 = .ok (.aload_n 0, 1) := by decide +kernel
theorem dX4_parse_16 : decode cX4_parse 16 = .ok (.iconst 0, 1) := by decide +kernel
theorem dX4_parse_17 : decode cX4_parse 17 = .ok (.putfield 32, 3) := by decide +kernel
theorem dX4_parse_20 : decode cX4_parse 20 = .ok (.aload_n 0, 1) := by decide +kernel
theorem dX4_parse_21 : decode cX4_parse 21 = .ok (.iconst 0, 1) := by decide +kernel
theorem dX4_parse_22 : decode cX4_parse 22 = .ok (.putfield 35, 3) := by decide +kernel
theorem dX4_parse_25 : decode cX4_parse 25 = .ok (.aload_n 0, 1) := by decide +kernel
theorem dX4_parse_26 : decode cX4_parse 26 = .ok (.iconst (-1), 1) := by decide +kernel
theorem dX4_parse_27 : decode cX4_parse 27 = .ok (.invokevirtual 39, 3) := by decide +kernel
theorem dX4_parse_30 : decode cX4_parse 30 = .ok (.aload_n 0, 1) := by decide +kernel
theorem dX4_parse_31 : decode cX4_parse 31 = .ok (.getfield 19, 3) := by decide +kernel
theorem dX4_parse_34 : decode cX4_parse 34 = .ok (.invokevirtual 43, 3) := by decide +kernel
theorem dX4_parse_37 : decode cX4_parse 37 = .ok (.aload_n 0, 1) := by decide +kernel
theorem dX4_parse_38 : decode cX4_parse 38 = .ok (.getfield 19, 3) := by decide +kernel
theorem dX4_parse_41 : decode cX4_parse 41 = .ok (.iconst (-1), 1) := by decide +kernel
theorem dX4_parse_42 : decode cX4_parse 42 = .ok (.iconst 0, 1) := by decide +kernel
theorem dX4_parse_43 : decode cX4_parse 43 = .ok (.iconst 0, 1) := by decide +kernel
theorem dX4_parse_44 : decode cX4_parse 44 = .ok (.iconst 0, 1) := by decide +kernel
theorem dX4_parse_45 : decode cX4_parse 45 = .ok (.invokevirtual 50, 3) := by decide +kernel
theorem dX4_parse_48 : decode cX4_parse 48 = .ok (.istore_n 1, 1) := by decide +kernel
theorem dX4_parse_49 : decode cX4_parse 49 = .ok (.iconst 0, 1) := by decide +kernel
theorem dX4_parse_50 : decode cX4_parse 50 = .ok (.istore_n 2, 1) := by decide +kernel
theorem dX4_parse_51 : decode cX4_parse 51 = .ok (.iload_n 2, 1) := by decide +kernel
theorem dX4_parse_52 : decode cX4_parse 52 = .ok (.sipush 8192, 3) := by decide +kernel
theorem dX4_parse_55 : decode cX4_parse 55 = .ok (.if_icmp .ge 67, 3) := by decide +kernel
theorem dX4_parse_58 : decode cX4_parse 58 = .ok (.aload_n 0, 1) := by decide +kernel
theorem dX4_parse_59 : decode cX4_parse 59 = .ok (.invokevirtual 54, 3) := by decide +kernel
theorem dX4_parse_62 : decode cX4_parse 62 = .ok (.ifCond .eq 60, 3) := by decide +kernel
theorem dX4_parse_65 : decode cX4_parse 65 = .ok (.aload_n 0, 1) := by decide +kernel
theorem dX4_parse_66 : decode cX4_parse 66 = .ok (.getfield 26, 3) := by decide +kernel
theorem dX4_parse_69 : decode cX4_parse 69 = .ok (.istore_n 3, 1) := by decide +kernel
theorem dX4_parse_70 : decode cX4_parse 70 = .ok (.aload_n 0, 1) := by decide +kernel
theorem dX4_parse_71 : decode cX4_parse 71 = .ok (.iload_n 1, 1) := by decide +kernel
theorem dX4_parse_72 : decode cX4_parse 72 = .ok (.invokevirtual 58, 3) := by decide +kernel
theorem dX4_parse_75 : decode cX4_parse 75 = .ok (.istore 4, 2) := by decide +kernel
theorem dX4_parse_77 : decode cX4_parse 77 = .ok (.aload_n 0, 1) := by decide +kernel
theorem dX4_parse_78 : decode cX4_parse 78 = .ok (.iload 4, 2) := by decide +kernel
theorem dX4_parse_80 : decode cX4_parse 80 = .ok (.invokevirtual 62, 3) := by decide +kernel
theorem dX4_parse_83 : decode cX4_parse 83 = .ok (.aload_n 0, 1) := by decide +kernel
theorem dX4_parse_84 : decode cX4_parse 84 = .ok (.getfield 26, 3) := by decide +kernel
theorem dX4_parse_87 : decode cX4_parse 87 = .ok (.sipush 293, 3) := by decide +kernel
theorem dX4_parse_90 : decode cX4_parse 90 = .ok (.if_icmp .ne 12, 3) := by decide +kernel
theorem dX4_parse_93 : decode cX4_parse 93 = .ok (.aload_n 0, 1) := by decide +kernel
theorem dX4_parse_94 : decode cX4_parse 94 = .ok (.iload 4, 2) := by decide +kernel
theorem dX4_parse_96 : decode cX4_parse 96 = .ok (.invokevirtual 67, 3) := by decide +kernel
theorem dX4_parse_99 : decode cX4_parse 99 = .ok (.goto 9, 3) := by decide +kernel
theorem dX4_parse_102 : decode cX4_parse 102 = .ok (.aload_n 0, 1) := by decide +kernel
theorem dX4_parse_103 : decode cX4_parse 103 = .ok (.iload 4, 2) := by decide +kernel
theorem dX4_parse_105 : decode cX4_parse 105 = .ok (.invokevirtual 70, 3) := by decide +kernel
theorem dX4_parse_108 : decode cX4_parse 108 = .ok (.aload_n 0, 1) := by decide +kernel
theorem dX4_parse_109 : decode cX4_parse 109 = .ok (.iload_n 3, 1) := by decide +kernel
theorem dX4_parse_110 : decode cX4_parse 110 = .ok (.invokestatic 73, 3) := by decide +kernel
theorem dX4_parse_113 : decode cX4_parse 113 = .ok (.invokevirtual 39, 3) := by decide +kernel
theorem dX4_parse_116 : decode cX4_parse 116 = .ok (.iinc 2 1, 3) := by decide +kernel
theorem dX4_parse_119 : decode cX4_parse 119 = .ok (.goto (-68), 3) := by decide +kernel
theorem dX4_parse_122 : decode cX4_parse 122 = .ok (.aload_n 0, 1) := by decide +kernel
theorem dX4_parse_123 : decode cX4_parse 123 = .ok (.iconst 4, 1) := by decide +kernel
theorem dX4_parse_124 : decode cX4_parse 124 = .ok (.invokevirtual 39, 3) := by decide +kernel
theorem dX4_parse_127 : decode cX4_parse 127 = .ok (.aload_n 0, 1) := by decide +kernel
theorem dX4_parse_128 : decode cX4_parse 128 = .ok (.invokevirtual 78, 3) := by decide +kernel
theorem dX4_parse_131 : decode cX4_parse 131 = .ok (.return_, 1) := by decide +kernel
