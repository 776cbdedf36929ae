theorem dX8_statements_0 : decode cX8_statements 0 = .ok (.aload_n 0, 1) := by decide +kernel
theorem dX8_statements_1 : decode cX8_statements 1 = .ok (.getfield 126, 3) := by decide +kernel
theorem dX8_statements_4 : decode cX8_statements 4 = .ok (.bipush 60, 2) := by decide +kernel
theorem dX8_statements_6 : decode cX8_statements 6 = .ok (.if_icmp .ne 16, 3) := by decide +kernel
theorem dX8_statements_9 : decode cX8_statements 9 = .ok (.aload_n 0, 1) := by decide +kernel
theorem dX8_statements_10 : decode cX8_statements 10 = .ok (.bipush 115, 2) := by decide +kernel
theorem dX8_statements_12 : decode cX8_statements 12 = .ok (.invokevirtual 201, 3) := by decide +kernel
theorem dX8_statements_15 : decode cX8_statements 15 = .ok (.aload_n 0, 1) := by decide +kernel
theorem dX8_statements_16 : decode cX8_statements 16 = .ok (.invokevirtual 208, 3) := by decide +kernel
theorem dX8_statements_19 : decode cX8_statements 19 = .ok (.goto 127, 3) := by decide +kernel
theorem dX8_statements_22 : decode cX8_statements 22 = .ok (.aload_n 0, 1) := by decide +kernel
theorem dX8_statements_23 : decode cX8_statements 23 = .ok (.getfield 126, 3) := by decide +kernel
theorem dX8_statements_26 : decode cX8_statements 26 = .ok (.bipush 80, 2) := by decide +kernel
theorem dX8_statements_28 : decode cX8_statements 28 = .ok (.if_icmp .ne 22, 3) := by decide +kernel
theorem dX8_statements_31 : decode cX8_statements 31 = .ok (.aload_n 0, 1) := by decide +kernel
theorem dX8_statements_32 : decode cX8_statements 32 = .ok (.invokevirtual 247, 3) := by decide +kernel
theorem dX8_statements_35 : decode cX8_statements 35 = .ok (.aload_n 0, 1) := by decide +kernel
theorem dX8_statements_36 : decode cX8_statements 36 = .ok (.bipush 115, 2) := by decide +kernel
theorem dX8_statements_38 : decode cX8_statements 38 = .ok (.bipush 116, 2) := by decide +kernel
theorem dX8_statements_40 : decode cX8_statements 40 = .ok (.invokevirtual 205, 3) := by decide +kernel
theorem dX8_statements_43 : decode cX8_statements 43 = .ok (.aload_n 0, 1) := by decide +kernel
theorem dX8_statements_44 : decode cX8_statements 44 = .ok (.invokevirtual 208, 3) := by decide +kernel
theorem dX8_statements_47 : decode cX8_statements 47 = .ok (.goto 99, 3) := by decide +kernel
theorem dX8_statements_50 : decode cX8_statements 50 = .ok (.aload_n 0, 1) := by decide +kernel
theorem dX8_statements_51 : decode cX8_statements 51 = .ok (.getfield 126, 3) := by decide +kernel
theorem dX8_statements_54 : decode cX8_statements 54 = .ok (.bipush 16, 2) := by decide +kernel
theorem dX8_statements_56 : decode cX8_statements 56 = .ok (.if_icmp .eq 21, 3) := by decide +kernel
theorem dX8_statements_59 : decode cX8_statements 59 = .ok (.aload_n 0, 1) := by decide +kernel
theorem dX8_statements_60 : decode cX8_statements 60 = .ok (.getfield 126, 3) := by decide +kernel
theorem dX8_statements_63 : decode cX8_statements 63 = .ok (.bipush 21, 2) := by decide +kernel
theorem dX8_statements_65 : decode cX8_statements 65 = .ok (.if_icmp .eq 12, 3) := by decide +kernel
theorem dX8_statements_68 : decode cX8_statements 68 = .ok (.aload_n 0, 1) := by decide +kernel
theorem dX8_statements_69 : decode cX8_statements 69 = .ok (.getfield 126, 3) := by decide +kernel
theorem dX8_statements_72 : decode cX8_statements 72 = .ok (.bipush 23, 2) := by decide +kernel
theorem dX8_statements_74 : decode cX8_statements 74 = .ok (.if_icmp .ne 17, 3) := by decide +kernel
theorem dX8_statements_77 : decode cX8_statements 77 = .ok (.aload_n 0, 1) := by decide +kernel
theorem dX8_statements_78 : decode cX8_statements 78 = .ok (.invokevirtual 250, 3) := by decide +kernel
theorem dX8_statements_81 : decode cX8_statements 81 = .ok (.ifCond .eq 65, 3) := by decide +kernel
theorem dX8_statements_84 : decode cX8_statements 84 = .ok (.aload_n 0, 1) := by decide +kernel
theorem dX8_statements_85 : decode cX8_statements 85 = .ok (.invokevirtual 253, 3) := by decide +kernel
theorem dX8_statements_88 : decode cX8_statements 88 = .ok (.goto 58, 3) := by decide +kernel
theorem dX8_statements_91 : decode cX8_statements 91 = .ok (.aload_n 0, 1) := by decide +kernel
theorem dX8_statements_92 : decode cX8_statements 92 = .ok (.getfield 126, 3) := by decide +kernel
theorem dX8_statements_95 : decode cX8_statements 95 = .ok (.bipush 28, 2) := by decide +kernel
theorem dX8_statements_97 : decode cX8_statements 97 = .ok (.if_icmp .eq 12, 3) := by decide +kernel
theorem dX8_statements_100 : decode cX8_statements 100 = .ok (.aload_n 0, 1) := by decide +kernel
theorem dX8_statements_101 : decode cX8_statements 101 = .ok (.getfield 126, 3) := by decide +kernel
theorem dX8_statements_104 : decode cX8_statements 104 = .ok (.bipush 29, 2) := by decide +kernel
theorem dX8_statements_106 : decode cX8_statements 106 = .ok (.if_icmp .ne 40, 3) := by decide +kernel
theorem dX8_statements_109 : decode cX8_statements 109 = .ok (.aload_n 0, 1) := by decide +kernel
theorem dX8_statements_110 : decode cX8_statements 110 = .ok (.aload_n 0, 1) := by decide +kernel
theorem dX8_statements_111 : decode cX8_statements 111 = .ok (.getfield 126, 3) := by decide +kernel
theorem dX8_statements_114 : decode cX8_statements 114 = .ok (.bipush 28, 2) := by decide +kernel
theorem dX8_statements_116 : decode cX8_statements 116 = .ok (.if_icmp .ne 8, 3) := by decide +kernel
theorem dX8_statements_119 : decode cX8_statements 119 = .ok (.bipush 20, 2) := by decide +kernel
theorem dX8_statements_121 : decode cX8_statements 121 = .ok (.goto 5, 3) := by decide +kernel
theorem dX8_statements_124 : decode cX8_statements 124 = .ok (.bipush 21, 2) := by decide +kernel
theorem dX8_statements_126 : decode cX8_statements 126 = .ok (.aload_n 0, 1) := by decide +kernel
theorem dX8_statements_127 : decode cX8_statements 127 = .ok (.getfield 119, 3) := by decide +kernel
theorem dX8_statements_130 : decode cX8_statements 130 = .ok (.iconst 0, 1) := by decide +kernel
theorem dX8_statements_131 : decode cX8_statements 131 = .ok (.invokevirtual 238, 3) := by decide +kernel
theorem dX8_statements_134 : decode cX8_statements 134 = .ok (.aload_n 0, 1) := by decide +kernel
theorem dX8_statements_135 : decode cX8_statements 135 = .ok (.bipush 115, 2) := by decide +kernel
theorem dX8_statements_137 : decode cX8_statements 137 = .ok (.bipush 60, 2) := by decide +kernel
theorem dX8_statements_139 : decode cX8_statements 139 = .ok (.invokevirtual 205, 3) := by decide +kernel
theorem dX8_statements_142 : decode cX8_statements 142 = .ok (.aload_n 0, 1) := by decide +kernel
theorem dX8_statements_143 : decode cX8_statements 143 = .ok (.invokevirtual 208, 3) := by decide +kernel
theorem dX8_statements_146 : decode cX8_statements 146 = .ok (.return_, 1) := by decide +kernel

theorem dX8_up_0 : decode cX8_up 0 = .ok (.aload_n 0, 1) := by decide +kernel
theorem dX8_up_1 : decode cX8_up 1 = .ok (.aload_n 0, 1) := by decide +kernel
theorem dX8_up_2 : decode cX8_up 2 = .ok (.getfield 44, 3) := by decide +kernel
theorem dX8_up_5 : decode cX8_up 5 = .ok (.aload_n 0, 1) := by decide +kernel
theorem dX8_up_6 : decode cX8_up 6 = .ok (.getfield 192, 3) := by decide +kernel
theorem dX8_up_9 : decode cX8_up 9 = .ok (.iaload, 1) := by decide +kernel
theorem dX8_up_10 : decode cX8_up 10 = .ok (.putfield 192, 3) := by decide +kernel
theorem dX8_up_13 : decode cX8_up 13 = .ok (.return_, 1) := by decide +kernel

theorem dX8_behindName_0 : decode cX8_behindName 0 = .ok (.aload_n 0, 1) := by decide +kernel
theorem dX8_behindName_1 : decode cX8_behindName 1 = .ok (.getfield 126, 3) := by decide +kernel
theorem dX8_behindName_4 : decode cX8_behindName 4 = .ok (.bipush 50, 2) := by decide +kernel
theorem dX8_behindName_6 : decode cX8_behindName 6 = .ok (.if_icmp .ne 47, 3) := by decide +kernel
theorem dX8_behindName_9 : decode cX8_behindName 9 = .ok (.aload_n 0, 1) := by decide +kernel
theorem dX8_behindName_10 : decode cX8_behindName 10 = .ok (.bipush 12, 2) := by decide +kernel
theorem dX8_behindName_12 : decode cX8_behindName 12 = .ok (.aload_n 0, 1) := by decide +kernel
theorem dX8_behindName_13 : decode cX8_behindName 13 = .ok (.getfield 119, 3) := by decide +kernel
theorem dX8_behindName_16 : decode cX8_behindName 16 = .ok (.iconst 0, 1) := by decide +kernel
theorem dX8_behindName_17 : decode cX8_behindName 17 = .ok (.invokevirtual 227, 3) := by decide +kernel
theorem dX8_behindName_20 : decode cX8_behindName 20 = .ok (.aload_n 0, 1) := by decide +kernel
theorem dX8_behindName_21 : decode cX8_behindName 21 = .ok (.bipush 6, 2) := by decide +kernel
theorem dX8_behindName_23 : decode cX8_behindName 23 = .ok (.aload_n 0, 1) := by decide +kernel
theorem dX8_behindName_24 : decode cX8_behindName 24 = .ok (.getfield 217, 3) := by decide +kernel
theorem dX8_behindName_27 : decode cX8_behindName 27 = .ok (.aload_n 0, 1) := by decide +kernel
theorem dX8_behindName_28 : decode cX8_behindName 28 = .ok (.getfield 220, 3) := by decide +kernel
theorem dX8_behindName_31 : decode cX8_behindName 31 = .ok (.invokevirtual 238, 3) := by decide +kernel
theorem dX8_behindName_34 : decode cX8_behindName 34 = .ok (.aload_n 0, 1) := by decide +kernel
theorem dX8_behindName_35 : decode cX8_behindName 35 = .ok (.bipush 101, 2) := by decide +kernel
theorem dX8_behindName_37 : decode cX8_behindName 37 = .ok (.bipush 60, 2) := by decide +kernel
theorem dX8_behindName_39 : decode cX8_behindName 39 = .ok (.invokevirtual 205, 3) := by decide +kernel
theorem dX8_behindName_42 : decode cX8_behindName 42 = .ok (.aload_n 0, 1) := by decide +kernel
theorem dX8_behindName_43 : decode cX8_behindName 43 = .ok (.invokevirtual 256, 3) := by decide +kernel
theorem dX8_behindName_46 : decode cX8_behindName 46 = .ok (.aload_n 0, 1) := by decide +kernel
theorem dX8_behindName_47 : decode cX8_behindName 47 = .ok (.invokevirtual 208, 3) := by decide +kernel
theorem dX8_behindName_50 : decode cX8_behindName 50 = .ok (.goto 132, 3) := by decide +kernel
theorem dX8_behindName_53 : decode cX8_behindName 53 = .ok (.aload_n 0, 1) := by decide +kernel
theorem dX8_behindName_54 : decode cX8_behindName 54 = .ok (.getfield 126, 3) := by decide +kernel
theorem dX8_behindName_57 : decode cX8_behindName 57 = .ok (.bipush 57, 2) := by decide +kernel
theorem dX8_behindName_59 : decode cX8_behindName 59 = .ok (.if_icmp .ne 68, 3) := by decide +kernel
theorem dX8_behindName_62 : decode cX8_behindName 62 = .ok (.aload_n 0, 1) := by decide +kernel
theorem dX8_behindName_63 : decode cX8_behindName 63 = .ok (.invokevirtual 250, 3) := by decide +kernel
theorem dX8_behindName_66 : decode cX8_behindName 66 = .ok (.ifCond .eq 116, 3) := by decide +kernel
theorem dX8_behindName_69 : decode cX8_behindName 69 = .ok (.aload_n 0, 1) := by decide +kernel
theorem dX8_behindName_70 : decode cX8_behindName 70 = .ok (.bipush 12, 2) := by decide +kernel
theorem dX8_behindName_72 : decode cX8_behindName 72 = .ok (.aload_n 0, 1) := by decide +kernel
theorem dX8_behindName_73 : decode cX8_behindName 73 = .ok (.getfield 119, 3) := by decide +kernel
theorem dX8_behindName_76 : decode cX8_behindName 76 = .ok (.iconst 0, 1) := by decide +kernel
theorem dX8_behindName_77 : decode cX8_behindName 77 = .ok (.invokevirtual 227, 3) := by decide +kernel
theorem dX8_behindName_80 : decode cX8_behindName 80 = .ok (.aload_n 0, 1) := by decide +kernel
theorem dX8_behindName_81 : decode cX8_behindName 81 = .ok (.bipush 32, 2) := by decide +kernel
theorem dX8_behindName_83 : decode cX8_behindName 83 = .ok (.aload_n 0, 1) := by decide +kernel
theorem dX8_behindName_84 : decode cX8_behindName 84 = .ok (.getfield 217, 3) := by decide +kernel
theorem dX8_behindName_87 : decode cX8_behindName 87 = .ok (.aload_n 0, 1) := by decide +kernel
theorem dX8_behindName_88 : decode cX8_behindName 88 = .ok (.getfield 220, 3) := by decide +kernel
theorem dX8_behindName_91 : decode cX8_behindName 91 = .ok (.invokevirtual 227, 3) := by decide +kernel
theorem dX8_behindName_94 : decode cX8_behindName 94 = .ok (.aload_n 0, 1) := by decide +kernel
theorem dX8_behindName_95 : decode cX8_behindName 95 = .ok (.bipush 101, 2) := by decide +kernel
theorem dX8_behindName_97 : decode cX8_behindName 97 = .ok (.bipush 60, 2) := by decide +kernel
theorem dX8_behindName_99 : decode cX8_behindName 99 = .ok (.invokevirtual 205, 3) := by decide +kernel
theorem dX8_behindName_102 : decode cX8_behindName 102 = .ok (.aload_n 0, 1) := by decide +kernel
theorem dX8_behindName_103 : decode cX8_behindName 103 = .ok (.invokevirtual 256, 3) := by decide +kernel
theorem dX8_behindName_106 : decode cX8_behindName 106 = .ok (.aload_n 0, 1) := by decide +kernel
theorem dX8_behindName_107 : decode cX8_behindName 107 = .ok (.sipush 128, 3) := by decide +kernel
theorem dX8_behindName_110 : decode cX8_behindName 110 = .ok (.sipush 129, 3) := by decide +kernel
theorem dX8_behindName_113 : decode cX8_behindName 113 = .ok (.invokevirtual 205, 3) := by decide +kernel
theorem dX8_behindName_116 : decode cX8_behindName 116 = .ok (.aload_n 0, 1) := by decide +kernel
theorem dX8_behindName_117 : decode cX8_behindName 117 = .ok (.invokevirtual 256, 3) := by decide +kernel
theorem dX8_behindName_120 : decode cX8_behindName 120 = .ok (.aload_n 0, 1) := by decide +kernel
theorem dX8_behindName_121 : decode cX8_behindName 121 = .ok (.invokevirtual 208, 3) := by decide +kernel
theorem dX8_behindName_124 : decode cX8_behindName 124 = .ok (.goto 58, 3) := by decide +kernel
theorem dX8_behindName_127 : decode cX8_behindName 127 = .ok (.aload_n 0, 1) := by decide +kernel
theorem dX8_behindName_128 : decode cX8_behindName 128 = .ok (.getfield 126, 3) := by decide +kernel
theorem dX8_behindName_131 : decode cX8_behindName 131 = .ok (.bipush 55, 2) := by decide +kernel
theorem dX8_behindName_133 : decode cX8_behindName 133 = .ok (.if_icmp .ne 45, 3) := by decide +kernel
theorem dX8_behindName_136 : decode cX8_behindName 136 = .ok (.aload_n 0, 1) := by decide +kernel
theorem dX8_behindName_137 : decode cX8_behindName 137 = .ok (.invokevirtual 250, 3) := by decide +kernel
theorem dX8_behindName_140 : decode cX8_behindName 140 = .ok (.ifCond .eq 42, 3) := by decide +kernel
theorem dX8_behindName_143 : decode cX8_behindName 143 = .ok (.aload_n 0, 1) := by decide +kernel
theorem dX8_behindName_144 : decode cX8_behindName 144 = .ok (.bipush 13, 2) := by decide +kernel
theorem dX8_behindName_146 : decode cX8_behindName 146 = .ok (.aload_n 0, 1) := by decide +kernel
theorem dX8_behindName_147 : decode cX8_behindName 147 = .ok (.getfield 217, 3) := by decide +kernel
theorem dX8_behindName_150 : decode cX8_behindName 150 = .ok (.aload_n 0, 1) := by decide +kernel
theorem dX8_behindName_151 : decode cX8_behindName 151 = .ok (.getfield 220, 3) := by decide +kernel
theorem dX8_behindName_154 : decode cX8_behindName 154 = .ok (.invokevirtual 227, 3) := by decide +kernel
theorem dX8_behindName_157 : decode cX8_behindName 157 = .ok (.aload_n 0, 1) := by decide +kernel
theorem dX8_behindName_158 : decode cX8_behindName 158 = .ok (.bipush 101, 2) := by decide +kernel
theorem dX8_behindName_160 : decode cX8_behindName 160 = .ok (.bipush 60, 2) := by decide +kernel
theorem dX8_behindName_162 : decode cX8_behindName 162 = .ok (.sipush 130, 3) := by decide +kernel
theorem dX8_behindName_165 : decode cX8_behindName 165 = .ok (.sipush 131, 3) := by decide +kernel
theorem dX8_behindName_168 : decode cX8_behindName 168 = .ok (.invokevirtual 231, 3) := by decide +kernel
theorem dX8_behindName_171 : decode cX8_behindName 171 = .ok (.aload_n 0, 1) := by decide +kernel
theorem dX8_behindName_172 : decode cX8_behindName 172 = .ok (.invokevirtual 208, 3) := by decide +kernel
theorem dX8_behindName_175 : decode cX8_behindName 175 = .ok (.goto 7, 3) := by decide +kernel
theorem dX8_behindName_178 : decode cX8_behindName 178 = .ok (.aload_n 0, 1) := by decide +kernel
theorem dX8_behindName_179 : decode cX8_behindName 179 = .ok (.invokevirtual 211, 3) := by decide +kernel
theorem dX8_behindName_182 : decode cX8_behindName 182 = .ok (.return_, 1) := by decide +kernel

theorem dX8_indexEnd_0 : decode cX8_indexEnd 0 = .ok (.aload_n 0, 1) := by decide +kernel
theorem dX8_indexEnd_1 : decode cX8_indexEnd 1 = .ok (.dup, 1) := by decide +kernel
theorem dX8_indexEnd_2 : decode cX8_indexEnd 2 = .ok (.getfield 214, 3) := by decide +kernel
theorem dX8_indexEnd_5 : decode cX8_indexEnd 5 = .ok (.iconst 1, 1) := by decide +kernel
theorem dX8_indexEnd_6 : decode cX8_indexEnd 6 = .ok (.isub, 1) := by decide +kernel
theorem dX8_indexEnd_7 : decode cX8_indexEnd 7 = .ok (.putfield 214, 3) := by decide +kernel
theorem dX8_indexEnd_10 : decode cX8_indexEnd 10 = .ok (.aload_n 0, 1) := by decide +kernel
theorem dX8_indexEnd_11 : decode cX8_indexEnd 11 = .ok (.invokevirtual 259, 3) := by decide +kernel
theorem dX8_indexEnd_14 : decode cX8_indexEnd 14 = .ok (.aload_n 0, 1) := by decide +kernel
theorem dX8_indexEnd_15 : decode cX8_indexEnd 15 = .ok (.bipush 58, 2) := by decide +kernel
theorem dX8_indexEnd_17 : decode cX8_indexEnd 17 = .ok (.invokevirtual 235, 3) := by decide +kernel
theorem dX8_indexEnd_20 : decode cX8_indexEnd 20 = .ok (.return_, 1) := by decide +kernel

theorem dX8_assign_0 : decode cX8_assign 0 = .ok (.aload_n 0, 1) := by decide +kernel
theorem dX8_assign_1 : decode cX8_assign 1 = .ok (.getfield 38, 3) := by decide +kernel
theorem dX8_assign_4 : decode cX8_assign 4 = .ok (.aload_n 0, 1) := by decide +kernel
theorem dX8_assign_5 : decode cX8_assign 5 = .ok (.getfield 192, 3) := by decide +kernel
theorem dX8_assign_8 : decode cX8_assign 8 = .ok (.aload_n 0, 1) := by decide +kernel
theorem dX8_assign_9 : decode cX8_assign 9 = .ok (.getfield 119, 3) := by decide +kernel
theorem dX8_assign_12 : decode cX8_assign 12 = .ok (.iastore, 1) := by decide +kernel
theorem dX8_assign_13 : decode cX8_assign 13 = .ok (.aload_n 0, 1) := by decide +kernel
theorem dX8_assign_14 : decode cX8_assign 14 = .ok (.bipush 50, 2) := by decide +kernel
theorem dX8_assign_16 : decode cX8_assign 16 = .ok (.invokevirtual 235, 3) := by decide +kernel
theorem dX8_assign_19 : decode cX8_assign 19 = .ok (.return_, 1) := by decide +kernel

theorem dX8_parameter_0 : decode cX8_parameter 0 = .ok (.aload_n 0, 1) := by decide +kernel
theorem dX8_parameter_1 : decode cX8_parameter 1 = .ok (.bipush 14, 2) := by decide +kernel
theorem dX8_parameter_3 : decode cX8_parameter 3 = .ok (.aload_n 0, 1) := by decide +kernel
theorem dX8_parameter_4 : decode cX8_parameter 4 = .ok (.getfield 119, 3) := by decide +kernel
theorem dX8_parameter_7 : decode cX8_parameter 7 = .ok (.aload_n 0, 1) := by decide +kernel
theorem dX8_parameter_8 : decode cX8_parameter 8 = .ok (.getfield 132, 3) := by decide +kernel
theorem dX8_parameter_11 : decode cX8_parameter 11 = .ok (.invokevirtual 227, 3) := by decide +kernel
theorem dX8_parameter_14 : decode cX8_parameter 14 = .ok (.aload_n 0, 1) := by decide +kernel
theorem dX8_parameter_15 : decode cX8_parameter 15 = .ok (.bipush 101, 2) := by decide +kernel
theorem dX8_parameter_17 : decode cX8_parameter 17 = .ok (.invokevirtual 201, 3) := by decide +kernel
theorem dX8_parameter_20 : decode cX8_parameter 20 = .ok (.aload_n 0, 1) := by decide +kernel
theorem dX8_parameter_21 : decode cX8_parameter 21 = .ok (.invokevirtual 256, 3) := by decide +kernel
theorem dX8_parameter_24 : decode cX8_parameter 24 = .ok (.aload_n 0, 1) := by decide +kernel
theorem dX8_parameter_25 : decode cX8_parameter 25 = .ok (.bipush 50, 2) := by decide +kernel
theorem dX8_parameter_27 : decode cX8_parameter 27 = .ok (.invokevirtual 201, 3) := by decide +kernel
theorem dX8_parameter_30 : decode cX8_parameter 30 = .ok (.aload_n 0, 1) := by decide +kernel
theorem dX8_parameter_31 : decode cX8_parameter 31 = .ok (.bipush 80, 2) := by decide +kernel
theorem dX8_parameter_33 : decode cX8_parameter 33 = .ok (.invokevirtual 235, 3) := by decide +kernel
theorem dX8_parameter_36 : decode cX8_parameter 36 = .ok (.return_, 1) := by decide +kernel

theorem dX8_elseBody_0 : decode cX8_elseBody 0 = .ok (.aload_n 0, 1) := by decide +kernel
theorem dX8_elseBody_1 : decode cX8_elseBody 1 = .ok (.getfield 126, 3) := by decide +kernel
theorem dX8_elseBody_4 : decode cX8_elseBody 4 = .ok (.bipush 19, 2) := by decide +kernel
theorem dX8_elseBody_6 : decode cX8_elseBody 6 = .ok (.if_icmp .ne 9, 3) := by decide +kernel
theorem dX8_elseBody_9 : decode cX8_elseBody 9 = .ok (.aload_n 0, 1) := by decide +kernel
theorem dX8_elseBody_10 : decode cX8_elseBody 10 = .ok (.bipush 19, 2) := by decide +kernel
theorem dX8_elseBody_12 : decode cX8_elseBody 12 = .ok (.invokevirtual 265, 3) := by decide +kernel
theorem dX8_elseBody_15 : decode cX8_elseBody 15 = .ok (.return_, 1) := by decide +kernel

theorem dX8_ifRest_0 : decode cX8_ifRest 0 = .ok (.aload_n 0, 1) := by decide +kernel
theorem dX8_ifRest_1 : decode cX8_ifRest 1 = .ok (.getfield 126, 3) := by decide +kernel
theorem dX8_ifRest_4 : decode cX8_ifRest 4 = .ok (.bipush 18, 2) := by decide +kernel
theorem dX8_ifRest_6 : decode cX8_ifRest 6 = .ok (.if_icmp .ne 22, 3) := by decide +kernel
theorem dX8_ifRest_9 : decode cX8_ifRest 9 = .ok (.aload_n 0, 1) := by decide +kernel
theorem dX8_ifRest_10 : decode cX8_ifRest 10 = .ok (.bipush 117, 2) := by decide +kernel
theorem dX8_ifRest_12 : decode cX8_ifRest 12 = .ok (.bipush 119, 2) := by decide +kernel
theorem dX8_ifRest_14 : decode cX8_ifRest 14 = .ok (.invokevirtual 205, 3) := by decide +kernel
theorem dX8_ifRest_17 : decode cX8_ifRest 17 = .ok (.aload_n 0, 1) := by decide +kernel
theorem dX8_ifRest_18 : decode cX8_ifRest 18 = .ok (.invokevirtual 256, 3) := by decide +kernel
theorem dX8_ifRest_21 : decode cX8_ifRest 21 = .ok (.aload_n 0, 1) := by decide +kernel
theorem dX8_ifRest_22 : decode cX8_ifRest 22 = .ok (.invokevirtual 208, 3) := by decide +kernel
theorem dX8_ifRest_25 : decode cX8_ifRest 25 = .ok (.goto 7, 3) := by decide +kernel
theorem dX8_ifRest_28 : decode cX8_ifRest 28 = .ok (.aload_n 0, 1) := by decide +kernel
theorem dX8_ifRest_29 : decode cX8_ifRest 29 = .ok (.invokevirtual 262, 3) := by decide +kernel
theorem dX8_ifRest_32 : decode cX8_ifRest 32 = .ok (.return_, 1) := by decide +kernel

theorem dX8_choices_0 : decode cX8_choices 0 = .ok (.aload_n 0, 1) := by decide +kernel
theorem dX8_choices_1 : decode cX8_choices 1 = .ok (.invokevirtual 223, 3) := by decide +kernel
theorem dX8_choices_4 : decode cX8_choices 4 = .ok (.ifCond .eq 32, 3) := by decide +kernel
theorem dX8_choices_7 : decode cX8_choices 7 = .ok (.aload_n 0, 1) := by decide +kernel
theorem dX8_choices_8 : decode cX8_choices 8 = .ok (.bipush 17, 2) := by decide +kernel
theorem dX8_choices_10 : decode cX8_choices 10 = .ok (.aload_n 0, 1) := by decide +kernel
theorem dX8_choices_11 : decode cX8_choices 11 = .ok (.getfield 119, 3) := by decide +kernel
theorem dX8_choices_14 : decode cX8_choices 14 = .ok (.iconst 0, 1) := by decide +kernel
theorem dX8_choices_15 : decode cX8_choices 15 = .ok (.invokevirtual 227, 3) := by decide +kernel
theorem dX8_choices_18 : decode cX8_choices 18 = .ok (.aload_n 0, 1) := by decide +kernel
theorem dX8_choices_19 : decode cX8_choices 19 = .ok (.bipush 121, 2) := by decide +kernel
theorem dX8_choices_21 : decode cX8_choices 21 = .ok (.bipush 101, 2) := by decide +kernel
theorem dX8_choices_23 : decode cX8_choices 23 = .ok (.bipush 122, 2) := by decide +kernel
theorem dX8_choices_25 : decode cX8_choices 25 = .ok (.bipush 124, 2) := by decide +kernel
theorem dX8_choices_27 : decode cX8_choices 27 = .ok (.invokevirtual 231, 3) := by decide +kernel
theorem dX8_choices_30 : decode cX8_choices 30 = .ok (.aload_n 0, 1) := by decide +kernel
theorem dX8_choices_31 : decode cX8_choices 31 = .ok (.bipush 123, 2) := by decide +kernel
theorem dX8_choices_33 : decode cX8_choices 33 = .ok (.invokevirtual 201, 3) := by decide +kernel
theorem dX8_choices_36 : decode cX8_choices 36 = .ok (.return_, 1) := by decide +kernel

theorem dX8_range_0 : decode cX8_range 0 = .ok (.aload_n 0, 1) := by decide +kernel
theorem dX8_range_1 : decode cX8_range 1 = .ok (.bipush 18, 2) := by decide +kernel
theorem dX8_range_3 : decode cX8_range 3 = .ok (.aload_n 0, 1) := by decide +kernel
theorem dX8_range_4 : decode cX8_range 4 = .ok (.getfield 119, 3) := by decide +kernel
theorem dX8_range_7 : decode cX8_range 7 = .ok (.iconst 0, 1) := by decide +kernel
theorem dX8_range_8 : decode cX8_range 8 = .ok (.invokevirtual 227, 3) := by decide +kernel
theorem dX8_range_11 : decode cX8_range 11 = .ok (.aload_n 0, 1) := by decide +kernel
theorem dX8_range_12 : decode cX8_range 12 = .ok (.bipush 101, 2) := by decide +kernel
theorem dX8_range_14 : decode cX8_range 14 = .ok (.bipush 125, 2) := by decide +kernel
theorem dX8_range_16 : decode cX8_range 16 = .ok (.invokevirtual 205, 3) := by decide +kernel
theorem dX8_range_19 : decode cX8_range 19 = .ok (.aload_n 0, 1) := by decide +kernel
theorem dX8_range_20 : decode cX8_range 20 = .ok (.bipush 113, 2) := by decide +kernel
theorem dX8_range_22 : decode cX8_range 22 = .ok (.invokevirtual 201, 3) := by decide +kernel
theorem dX8_range_25 : decode cX8_range 25 = .ok (.return_, 1) := by decide +kernel

theorem dX8_putOperand_0 : decode cX8_putOperand 0 = .ok (.aload_n 0, 1) := by decide +kernel
theorem dX8_putOperand_1 : decode cX8_putOperand 1 = .ok (.getfield 59, 3) := by decide +kernel
theorem dX8_putOperand_4 : decode cX8_putOperand 4 = .ok (.aload_n 0, 1) := by decide +kernel
theorem dX8_putOperand_5 : decode cX8_putOperand 5 = .ok (.getfield 268, 3) := by decide +kernel
theorem dX8_putOperand_8 : decode cX8_putOperand 8 = .ok (.iload_n 1, 1) := by decide +kernel
theorem dX8_putOperand_9 : decode cX8_putOperand 9 = .ok (.iastore, 1) := by decide +kernel
theorem dX8_putOperand_10 : decode cX8_putOperand 10 = .ok (.aload_n 0, 1) := by decide +kernel
theorem dX8_putOperand_11 : decode cX8_putOperand 11 = .ok (.dup, 1) := by decide +kernel
theorem dX8_putOperand_12 : decode cX8_putOperand 12 = .ok (.getfield 268, 3) := by decide +kernel
theorem dX8_putOperand_15 : decode cX8_putOperand 15 = .ok (.iconst 1, 1) := by decide +kernel
theorem dX8_putOperand_16 : decode cX8_putOperand 16 = .ok (.iadd, 1) := by decide +kernel
theorem dX8_putOperand_17 : decode cX8_putOperand 17 = .ok (.putfield 268, 3) := by decide +kernel
theorem dX8_putOperand_20 : decode cX8_putOperand 20 = .ok (.return_, 1) := by decide +kernel

theorem dX8_takeOperand_0 : decode cX8_takeOperand 0 = .ok (.aload_n 0, 1) := by decide +kernel
theorem dX8_takeOperand_1 : decode cX8_takeOperand 1 = .ok (.dup, 1) := by decide +kernel
theorem dX8_takeOperand_2 : decode cX8_takeOperand 2 = .ok (.getfield 268, 3) := by decide +kernel
theorem dX8_takeOperand_5 : decode cX8_takeOperand 5 = .ok (.iconst 1, 1) := by decide +kernel
theorem dX8_takeOperand_6 : decode cX8_takeOperand 6 = .ok (.isub, 1) := by decide +kernel
theorem dX8_takeOperand_7 : decode cX8_takeOperand 7 = .ok (.putfield 268, 3) := by decide +kernel
theorem dX8_takeOperand_10 : decode cX8_takeOperand 10 = .ok (.aload_n 0, 1) := by decide +kernel
theorem dX8_takeOperand_11 : decode cX8_takeOperand 11 = .ok (.getfield 59, 3) := by decide +kernel
theorem dX8_takeOperand_14 : decode cX8_takeOperand 14 = .ok (.aload_n 0, 1) := by decide +kernel
theorem dX8_takeOperand_15 : decode cX8_takeOperand 15 = .ok (.getfield 268, 3) := by decide +kernel
theorem dX8_takeOperand_18 : decode cX8_takeOperand 18 = .ok (.iaload, 1) := by decide +kernel
theorem dX8_takeOperand_19 : decode cX8_takeOperand 19 = .ok (.ireturn, 1) := by decide +kernel

theorem dX8_waitFor_0 : decode cX8_waitFor 0 = .ok (.aload_n 0, 1) := by decide +kernel
theorem dX8_waitFor_1 : decode cX8_waitFor 1 = .ok (.getfield 62, 3) := by decide +kernel
theorem dX8_waitFor_4 : decode cX8_waitFor 4 = .ok (.aload_n 0, 1) := by decide +kernel
theorem dX8_waitFor_5 : decode cX8_waitFor 5 = .ok (.getfield 271, 3) := by decide +kernel
theorem dX8_waitFor_8 : decode cX8_waitFor 8 = .ok (.iload_n 1, 1) := by decide +kernel
theorem dX8_waitFor_9 : decode cX8_waitFor 9 = .ok (.iastore, 1) := by decide +kernel
theorem dX8_waitFor_10 : decode cX8_waitFor 10 = .ok (.aload_n 0, 1) := by decide +kernel
theorem dX8_waitFor_11 : decode cX8_waitFor 11 = .ok (.getfield 65, 3) := by decide +kernel
theorem dX8_waitFor_14 : decode cX8_waitFor 14 = .ok (.aload_n 0, 1) := by decide +kernel
theorem dX8_waitFor_15 : decode cX8_waitFor 15 = .ok (.getfield 271, 3) := by decide +kernel
theorem dX8_waitFor_18 : decode cX8_waitFor 18 = .ok (.iload_n 2, 1) := by decide +kernel
theorem dX8_waitFor_19 : decode cX8_waitFor 19 = .ok (.iastore, 1) := by decide +kernel
theorem dX8_waitFor_20 : decode cX8_waitFor 20 = .ok (.aload_n 0, 1) := by decide +kernel
theorem dX8_waitFor_21 : decode cX8_waitFor 21 = .ok (.dup, 1) := by decide +kernel
theorem dX8_waitFor_22 : decode cX8_waitFor 22 = .ok (.getfield 271, 3) := by decide +kernel
theorem dX8_waitFor_25 : decode cX8_waitFor 25 = .ok (.iconst 1, 1) := by decide +kernel
theorem dX8_waitFor_26 : decode cX8_waitFor 26 = .ok (.iadd, 1) := by decide +kernel
theorem dX8_waitFor_27 : decode cX8_waitFor 27 = .ok (.putfield 271, 3) := by decide +kernel
theorem dX8_waitFor_30 : decode cX8_waitFor 30 = .ok (.return_, 1) := by decide +kernel

theorem dX8_expression_0 : decode cX8_expression 0 = .ok (.aload_n 0, 1) := by decide +kernel
theorem dX8_expression_1 : decode cX8_expression 1 = .ok (.dup, 1) := by decide +kernel
theorem dX8_expression_2 : decode cX8_expression 2 = .ok (.getfield 274, 3) := by decide +kernel
theorem dX8_expression_5 : decode cX8_expression 5 = .ok (.iconst 1, 1) := by decide +kernel
theorem dX8_expression_6 : decode cX8_expression 6 = .ok (.iadd, 1) := by decide +kernel
theorem dX8_expression_7 : decode cX8_expression 7 = .ok (.putfield 274, 3) := by decide +kernel
theorem dX8_expression_10 : decode cX8_expression 10 = .ok (.aload_n 0, 1) := by decide +kernel
theorem dX8_expression_11 : decode cX8_expression 11 = .ok (.iconst (-1), 1) := by decide +kernel
theorem dX8_expression_12 : decode cX8_expression 12 = .ok (.iconst 0, 1) := by decide +kernel
theorem dX8_expression_13 : decode cX8_expression 13 = .ok (.invokevirtual 277, 3) := by decide +kernel
theorem dX8_expression_16 : decode cX8_expression 16 = .ok (.aload_n 0, 1) := by decide +kernel
theorem dX8_expression_17 : decode cX8_expression 17 = .ok (.sipush 136, 3) := by decide +kernel
theorem dX8_expression_20 : decode cX8_expression 20 = .ok (.sipush 135, 3) := by decide +kernel
theorem dX8_expression_23 : decode cX8_expression 23 = .ok (.invokevirtual 205, 3) := by decide +kernel
theorem dX8_expression_26 : decode cX8_expression 26 = .ok (.return_, 1) := by decide +kernel

theorem dX8_signAt_0 : decode cX8_signAt 0 = .ok (.aload_n 0, 1) := by decide +kernel
theorem dX8_signAt_1 : decode cX8_signAt 1 = .ok (.getfield 126, 3) := by decide +kernel
theorem dX8_signAt_4 : decode cX8_signAt 4 = .ok (.tableswitch 216 30 70 #[180, 182, 184, 213, 216, 216, 216, 216, 216, 216, 216, 216, 216, 216, 216, 216, 216, 216, 216, 216, 216, 216, 195, 198, 188, 216, 216, 216, 216, 216, 216, 216, 216, 201, 204, 207, 210, 186, 190, 192, 184], 180) := by decide +kernel
theorem dX8_signAt_184 : decode cX8_signAt 184 = .ok (.iconst 0, 1) := by decide +kernel
theorem dX8_signAt_185 : decode cX8_signAt 185 = .ok (.ireturn, 1) := by decide +kernel
theorem dX8_signAt_186 : decode cX8_signAt 186 = .ok (.iconst 1, 1) := by decide +kernel
theorem dX8_signAt_187 : decode cX8_signAt 187 = .ok (.ireturn, 1) := by decide +kernel
theorem dX8_signAt_188 : decode cX8_signAt 188 = .ok (.iconst 2, 1) := by decide +kernel
theorem dX8_signAt_189 : decode cX8_signAt 189 = .ok (.ireturn, 1) := by decide +kernel
theorem dX8_signAt_190 : decode cX8_signAt 190 = .ok (.iconst 3, 1) := by decide +kernel
theorem dX8_signAt_191 : decode cX8_signAt 191 = .ok (.ireturn, 1) := by decide +kernel
theorem dX8_signAt_192 : decode cX8_signAt 192 = .ok (.iconst 4, 1) := by decide +kernel
theorem dX8_signAt_193 : decode cX8_signAt 193 = .ok (.ireturn, 1) := by decide +kernel
theorem dX8_signAt_194 : decode cX8_signAt 194 = .ok (.iconst 5, 1) := by decide +kernel
theorem dX8_signAt_195 : decode cX8_signAt 195 = .ok (.ireturn, 1) := by decide +kernel
theorem dX8_signAt_196 : decode cX8_signAt 196 = .ok (.bipush 6, 2) := by decide +kernel
theorem dX8_signAt_198 : decode cX8_signAt 198 = .ok (.ireturn, 1) := by decide +kernel
theorem dX8_signAt_199 : decode cX8_signAt 199 = .ok (.bipush 7, 2) := by decide +kernel
theorem dX8_signAt_201 : decode cX8_signAt 201 = .ok (.ireturn, 1) := by decide +kernel
theorem dX8_signAt_202 : decode cX8_signAt 202 = .ok (.bipush 8, 2) := by decide +kernel
theorem dX8_signAt_204 : decode cX8_signAt 204 = .ok (.ireturn, 1) := by decide +kernel
theorem dX8_signAt_205 : decode cX8_signAt 205 = .ok (.bipush 9, 2) := by decide +kernel
theorem dX8_signAt_207 : decode cX8_signAt 207 = .ok (.ireturn, 1) := by decide +kernel
theorem dX8_signAt_208 : decode cX8_signAt 208 = .ok (.bipush 10, 2) := by decide +kernel
theorem dX8_signAt_210 : decode cX8_signAt 210 = .ok (.ireturn, 1) := by decide +kernel
theorem dX8_signAt_211 : decode cX8_signAt 211 = .ok (.bipush 11, 2) := by decide +kernel
theorem dX8_signAt_213 : decode cX8_signAt 213 = .ok (.ireturn, 1) := by decide +kernel
theorem dX8_signAt_214 : decode cX8_signAt 214 = .ok (.bipush 12, 2) := by decide +kernel
theorem dX8_signAt_216 : decode cX8_signAt 216 = .ok (.ireturn, 1) := by decide +kernel
theorem dX8_signAt_217 : decode cX8_signAt 217 = .ok (.bipush 13, 2) := by decide +kernel
theorem dX8_signAt_219 : decode cX8_signAt 219 = .ok (.ireturn, 1) := by decide +kernel
theorem dX8_signAt_220 : decode cX8_signAt 220 = .ok (.iconst (-1), 1) := by decide +kernel
theorem dX8_signAt_221 : decode cX8_signAt 221 = .ok (.ireturn, 1) := by decide +kernel

theorem dX8_closeness_0 : decode cX8_closeness 0 = .ok (.iload_n 0, 1) := by decide +kernel
theorem dX8_closeness_1 : decode cX8_closeness 1 = .ok (.iconst 3, 1) := by decide +kernel
theorem dX8_closeness_2 : decode cX8_closeness 2 = .ok (.if_icmp .ge 7, 3) := by decide +kernel
theorem dX8_closeness_5 : decode cX8_closeness 5 = .ok (.iload_n 0, 1) := by decide +kernel
theorem dX8_closeness_6 : decode cX8_closeness 6 = .ok (.goto 45, 3) := by decide +kernel
theorem dX8_closeness_9 : decode cX8_closeness 9 = .ok (.iload_n 0, 1) := by decide +kernel
theorem dX8_closeness_10 : decode cX8_closeness 10 = .ok (.iconst 5, 1) := by decide +kernel
theorem dX8_closeness_11 : decode cX8_closeness 11 = .ok (.if_icmp .ge 7, 3) := by decide +kernel
theorem dX8_closeness_14 : decode cX8_closeness 14 = .ok (.iconst 3, 1) := by decide +kernel
theorem dX8_closeness_15 : decode cX8_closeness 15 = .ok (.goto 36, 3) := by decide +kernel
theorem dX8_closeness_18 : decode cX8_closeness 18 = .ok (.iload_n 0, 1) := by decide +kernel
theorem dX8_closeness_19 : decode cX8_closeness 19 = .ok (.bipush 9, 2) := by decide +kernel
theorem dX8_closeness_21 : decode cX8_closeness 21 = .ok (.if_icmp .ge 7, 3) := by decide +kernel
theorem dX8_closeness_24 : decode cX8_closeness 24 = .ok (.iconst 4, 1) := by decide +kernel
theorem dX8_closeness_25 : decode cX8_closeness 25 = .ok (.goto 26, 3) := by decide +kernel
theorem dX8_closeness_28 : decode cX8_closeness 28 = .ok (.iload_n 0, 1) := by decide +kernel
theorem dX8_closeness_29 : decode cX8_closeness 29 = .ok (.bipush 11, 2) := by decide +kernel
theorem dX8_closeness_31 : decode cX8_closeness 31 = .ok (.if_icmp .ge 7, 3) := by decide +kernel
theorem dX8_closeness_34 : decode cX8_closeness 34 = .ok (.iconst 5, 1) := by decide +kernel
theorem dX8_closeness_35 : decode cX8_closeness 35 = .ok (.goto 16, 3) := by decide +kernel
theorem dX8_closeness_38 : decode cX8_closeness 38 = .ok (.iload_n 0, 1) := by decide +kernel
theorem dX8_closeness_39 : decode cX8_closeness 39 = .ok (.bipush 20, 2) := by decide +kernel
theorem dX8_closeness_41 : decode cX8_closeness 41 = .ok (.if_icmp .ge 8, 3) := by decide +kernel
theorem dX8_closeness_44 : decode cX8_closeness 44 = .ok (.bipush 6, 2) := by decide +kernel
theorem dX8_closeness_46 : decode cX8_closeness 46 = .ok (.goto 5, 3) := by decide +kernel
theorem dX8_closeness_49 : decode cX8_closeness 49 = .ok (.bipush 7, 2) := by decide +kernel
theorem dX8_closeness_51 : decode cX8_closeness 51 = .ok (.ireturn, 1) := by decide +kernel

theorem dX8_settle_0 : decode cX8_settle 0 = .ok (.aload_n 0, 1) := by decide +kernel
theorem dX8_settle_1 : decode cX8_settle 1 = .ok (.dup, 1) := by decide +kernel
theorem dX8_settle_2 : decode cX8_settle 2 = .ok (.getfield 271, 3) := by decide +kernel
theorem dX8_settle_5 : decode cX8_settle 5 = .ok (.iconst 1, 1) := by decide +kernel
theorem dX8_settle_6 : decode cX8_settle 6 = .ok (.isub, 1) := by decide +kernel
theorem dX8_settle_7 : decode cX8_settle 7 = .ok (.putfield 271, 3) := by decide +kernel
theorem dX8_settle_10 : decode cX8_settle 10 = .ok (.aload_n 0, 1) := by decide +kernel
theorem dX8_settle_11 : decode cX8_settle 11 = .ok (.getfield 62, 3) := by decide +kernel
theorem dX8_settle_14 : decode cX8_settle 14 = .ok (.aload_n 0, 1) := by decide +kernel
theorem dX8_settle_15 : decode cX8_settle 15 = .ok (.getfield 271, 3) := by decide +kernel
theorem dX8_settle_18 : decode cX8_settle 18 = .ok (.iaload, 1) := by decide +kernel
theorem dX8_settle_19 : decode cX8_settle 19 = .ok (.istore_n 1, 1) := by decide +kernel
theorem dX8_settle_20 : decode cX8_settle 20 = .ok (.aload_n 0, 1) := by decide +kernel
theorem dX8_settle_21 : decode cX8_settle 21 = .ok (.invokevirtual 280, 3) := by decide +kernel
theorem dX8_settle_24 : decode cX8_settle 24 = .ok (.istore_n 2, 1) := by decide +kernel
theorem dX8_settle_25 : decode cX8_settle 25 = .ok (.aload_n 0, 1) := by decide +kernel
theorem dX8_settle_26 : decode cX8_settle 26 = .ok (.iload_n 1, 1) := by decide +kernel
theorem dX8_settle_27 : decode cX8_settle 27 = .ok (.bipush 20, 2) := by decide +kernel
theorem dX8_settle_29 : decode cX8_settle 29 = .ok (.if_icmp .ge 8, 3) := by decide +kernel
theorem dX8_settle_32 : decode cX8_settle 32 = .ok (.bipush 35, 2) := by decide +kernel
theorem dX8_settle_34 : decode cX8_settle 34 = .ok (.goto 5, 3) := by decide +kernel
theorem dX8_settle_37 : decode cX8_settle 37 = .ok (.bipush 36, 2) := by decide +kernel
theorem dX8_settle_39 : decode cX8_settle 39 = .ok (.aload_n 0, 1) := by decide +kernel
theorem dX8_settle_40 : decode cX8_settle 40 = .ok (.getfield 65, 3) := by decide +kernel
theorem dX8_settle_43 : decode cX8_settle 43 = .ok (.aload_n 0, 1) := by decide +kernel
theorem dX8_settle_44 : decode cX8_settle 44 = .ok (.getfield 271, 3) := by decide +kernel
theorem dX8_settle_47 : decode cX8_settle 47 = .ok (.iaload, 1) := by decide +kernel
theorem dX8_settle_48 : decode cX8_settle 48 = .ok (.iload_n 1, 1) := by decide +kernel
theorem dX8_settle_49 : decode cX8_settle 49 = .ok (.bipush 20, 2) := by decide +kernel
theorem dX8_settle_51 : decode cX8_settle 51 = .ok (.if_icmp .ge 7, 3) := by decide +kernel
theorem dX8_settle_54 : decode cX8_settle 54 = .ok (.iload_n 1, 1) := by decide +kernel
theorem dX8_settle_55 : decode cX8_settle 55 = .ok (.goto 7, 3) := by decide +kernel
theorem dX8_settle_58 : decode cX8_settle 58 = .ok (.iload_n 1, 1) := by decide +kernel
theorem dX8_settle_59 : decode cX8_settle 59 = .ok (.bipush 20, 2) := by decide +kernel
theorem dX8_settle_61 : decode cX8_settle 61 = .ok (.isub, 1) := by decide +kernel
theorem dX8_settle_62 : decode cX8_settle 62 = .ok (.invokevirtual 188, 3) := by decide +kernel
theorem dX8_settle_65 : decode cX8_settle 65 = .ok (.istore_n 3, 1) := by decide +kernel
theorem dX8_settle_66 : decode cX8_settle 66 = .ok (.iload_n 1, 1) := by decide +kernel
theorem dX8_settle_67 : decode cX8_settle 67 = .ok (.bipush 20, 2) := by decide +kernel
theorem dX8_settle_69 : decode cX8_settle 69 = .ok (.if_icmp .ge 15, 3) := by decide +kernel
theorem dX8_settle_72 : decode cX8_settle 72 = .ok (.aload_n 0, 1) := by decide +kernel
theorem dX8_settle_73 : decode cX8_settle 73 = .ok (.aload_n 0, 1) := by decide +kernel
theorem dX8_settle_74 : decode cX8_settle 74 = .ok (.invokevirtual 280, 3) := by decide +kernel
theorem dX8_settle_77 : decode cX8_settle 77 = .ok (.iload_n 3, 1) := by decide +kernel
theorem dX8_settle_78 : decode cX8_settle 78 = .ok (.invokevirtual 195, 3) := by decide +kernel
theorem dX8_settle_81 : decode cX8_settle 81 = .ok (.goto 13, 3) := by decide +kernel
theorem dX8_settle_84 : decode cX8_settle 84 = .ok (.aload_n 0, 1) := by decide +kernel
theorem dX8_settle_85 : decode cX8_settle 85 = .ok (.dup, 1) := by decide +kernel
theorem dX8_settle_86 : decode cX8_settle 86 = .ok (.getfield 214, 3) := by decide +kernel
theorem dX8_settle_89 : decode cX8_settle 89 = .ok (.iconst 1, 1) := by decide +kernel
theorem dX8_settle_90 : decode cX8_settle 90 = .ok (.isub, 1) := by decide +kernel
theorem dX8_settle_91 : decode cX8_settle 91 = .ok (.putfield 214, 3) := by decide +kernel
theorem dX8_settle_94 : decode cX8_settle 94 = .ok (.aload_n 0, 1) := by decide +kernel
theorem dX8_settle_95 : decode cX8_settle 95 = .ok (.iload_n 2, 1) := by decide +kernel
theorem dX8_settle_96 : decode cX8_settle 96 = .ok (.iload_n 3, 1) := by decide +kernel
theorem dX8_settle_97 : decode cX8_settle 97 = .ok (.invokevirtual 195, 3) := by decide +kernel
theorem dX8_settle_100 : decode cX8_settle 100 = .ok (.aload_n 0, 1) := by decide +kernel
theorem dX8_settle_101 : decode cX8_settle 101 = .ok (.iload_n 3, 1) := by decide +kernel
theorem dX8_settle_102 : decode cX8_settle 102 = .ok (.invokevirtual 284, 3) := by decide +kernel
theorem dX8_settle_105 : decode cX8_settle 105 = .ok (.return_, 1) := by decide +kernel

theorem dX8_operandCame_0 : decode cX8_operandCame 0 = .ok (.aload_n 0, 1) := by decide +kernel
theorem dX8_operandCame_1 : decode cX8_operandCame 1 = .ok (.iload_n 1, 1) := by decide +kernel
theorem dX8_operandCame_2 : decode cX8_operandCame 2 = .ok (.invokevirtual 284, 3) := by decide +kernel
theorem dX8_operandCame_5 : decode cX8_operandCame 5 = .ok (.aload_n 0, 1) := by decide +kernel
theorem dX8_operandCame_6 : decode cX8_operandCame 6 = .ok (.getfield 62, 3) := by decide +kernel
theorem dX8_operandCame_9 : decode cX8_operandCame 9 = .ok (.aload_n 0, 1) := by decide +kernel
theorem dX8_operandCame_10 : decode cX8_operandCame 10 = .ok (.getfield 271, 3) := by decide +kernel
theorem dX8_operandCame_13 : decode cX8_operandCame 13 = .ok (.iconst 1, 1) := by decide +kernel
theorem dX8_operandCame_14 : decode cX8_operandCame 14 = .ok (.isub, 1) := by decide +kernel
theorem dX8_operandCame_15 : decode cX8_operandCame 15 = .ok (.iaload, 1) := by decide +kernel
theorem dX8_operandCame_16 : decode cX8_operandCame 16 = .ok (.bipush 20, 2) := by decide +kernel
theorem dX8_operandCame_18 : decode cX8_operandCame 18 = .ok (.if_icmp .lt 10, 3) := by decide +kernel
theorem dX8_operandCame_21 : decode cX8_operandCame 21 = .ok (.aload_n 0, 1) := by decide +kernel
theorem dX8_operandCame_22 : decode cX8_operandCame 22 = .ok (.invokevirtual 287, 3) := by decide +kernel
theorem dX8_operandCame_25 : decode cX8_operandCame 25 = .ok (.goto (-20), 3) := by decide +kernel
theorem dX8_operandCame_28 : decode cX8_operandCame 28 = .ok (.return_, 1) := by decide +kernel

theorem dX8_anOperand_0 : decode cX8_anOperand 0 = .ok (.aload_n 0, 1) := by decide +kernel
theorem dX8_anOperand_1 : decode cX8_anOperand 1 = .ok (.getfield 126, 3) := by decide +kernel
theorem dX8_anOperand_4 : decode cX8_anOperand 4 = .ok (.bipush 64, 2) := by decide +kernel
theorem dX8_anOperand_6 : decode cX8_anOperand 6 = .ok (.if_icmp .eq 12, 3) := by decide +kernel
theorem dX8_anOperand_9 : decode cX8_anOperand 9 = .ok (.aload_n 0, 1) := by decide +kernel
theorem dX8_anOperand_10 : decode cX8_anOperand 10 = .ok (.getfield 126, 3) := by decide +kernel
theorem dX8_anOperand_13 : decode cX8_anOperand 13 = .ok (.bipush 34, 2) := by decide +kernel
theorem dX8_anOperand_15 : decode cX8_anOperand 15 = .ok (.if_icmp .ne 48, 3) := by decide +kernel
theorem dX8_anOperand_18 : decode cX8_anOperand 18 = .ok (.aload_n 0, 1) := by decide +kernel
theorem dX8_anOperand_19 : decode cX8_anOperand 19 = .ok (.invokevirtual 250, 3) := by decide +kernel
theorem dX8_anOperand_22 : decode cX8_anOperand 22 = .ok (.ifCond .eq 192, 3) := by decide +kernel
theorem dX8_anOperand_25 : decode cX8_anOperand 25 = .ok (.aload_n 0, 1) := by decide +kernel
theorem dX8_anOperand_26 : decode cX8_anOperand 26 = .ok (.aload_n 0, 1) := by decide +kernel
theorem dX8_anOperand_27 : decode cX8_anOperand 27 = .ok (.getfield 126, 3) := by decide +kernel
theorem dX8_anOperand_30 : decode cX8_anOperand 30 = .ok (.bipush 64, 2) := by decide +kernel
theorem dX8_anOperand_32 : decode cX8_anOperand 32 = .ok (.if_icmp .ne 8, 3) := by decide +kernel
theorem dX8_anOperand_35 : decode cX8_anOperand 35 = .ok (.bipush 20, 2) := by decide +kernel
theorem dX8_anOperand_37 : decode cX8_anOperand 37 = .ok (.goto 5, 3) := by decide +kernel
theorem dX8_anOperand_40 : decode cX8_anOperand 40 = .ok (.bipush 21, 2) := by decide +kernel
theorem dX8_anOperand_42 : decode cX8_anOperand 42 = .ok (.aload_n 0, 1) := by decide +kernel
theorem dX8_anOperand_43 : decode cX8_anOperand 43 = .ok (.getfield 119, 3) := by decide +kernel
theorem dX8_anOperand_46 : decode cX8_anOperand 46 = .ok (.invokevirtual 277, 3) := by decide +kernel
theorem dX8_anOperand_49 : decode cX8_anOperand 49 = .ok (.aload_n 0, 1) := by decide +kernel
theorem dX8_anOperand_50 : decode cX8_anOperand 50 = .ok (.sipush 135, 3) := by decide +kernel
theorem dX8_anOperand_53 : decode cX8_anOperand 53 = .ok (.invokevirtual 201, 3) := by decide +kernel
theorem dX8_anOperand_56 : decode cX8_anOperand 56 = .ok (.aload_n 0, 1) := by decide +kernel
theorem dX8_anOperand_57 : decode cX8_anOperand 57 = .ok (.invokevirtual 208, 3) := by decide +kernel
theorem dX8_anOperand_60 : decode cX8_anOperand 60 = .ok (.goto 154, 3) := by decide +kernel
theorem dX8_anOperand_63 : decode cX8_anOperand 63 = .ok (.aload_n 0, 1) := by decide +kernel
theorem dX8_anOperand_64 : decode cX8_anOperand 64 = .ok (.getfield 126, 3) := by decide +kernel
theorem dX8_anOperand_67 : decode cX8_anOperand 67 = .ok (.bipush 81, 2) := by decide +kernel
theorem dX8_anOperand_69 : decode cX8_anOperand 69 = .ok (.if_icmp .ne 28, 3) := by decide +kernel
theorem dX8_anOperand_72 : decode cX8_anOperand 72 = .ok (.aload_n 0, 1) := by decide +kernel
theorem dX8_anOperand_73 : decode cX8_anOperand 73 = .ok (.aload_n 0, 1) := by decide +kernel
theorem dX8_anOperand_74 : decode cX8_anOperand 74 = .ok (.bipush 30, 2) := by decide +kernel
theorem dX8_anOperand_76 : decode cX8_anOperand 76 = .ok (.aload_n 0, 1) := by decide +kernel
theorem dX8_anOperand_77 : decode cX8_anOperand 77 = .ok (.getfield 119, 3) := by decide +kernel
theorem dX8_anOperand_80 : decode cX8_anOperand 80 = .ok (.aload_n 0, 1) := by decide +kernel
theorem dX8_anOperand_81 : decode cX8_anOperand 81 = .ok (.getfield 132, 3) := by decide +kernel
theorem dX8_anOperand_84 : decode cX8_anOperand 84 = .ok (.invokevirtual 188, 3) := by decide +kernel
theorem dX8_anOperand_87 : decode cX8_anOperand 87 = .ok (.invokevirtual 290, 3) := by decide +kernel
theorem dX8_anOperand_90 : decode cX8_anOperand 90 = .ok (.aload_n 0, 1) := by decide +kernel
theorem dX8_anOperand_91 : decode cX8_anOperand 91 = .ok (.invokevirtual 208, 3) := by decide +kernel
theorem dX8_anOperand_94 : decode cX8_anOperand 94 = .ok (.goto 120, 3) := by decide +kernel
theorem dX8_anOperand_97 : decode cX8_anOperand 97 = .ok (.aload_n 0, 1) := by decide +kernel
theorem dX8_anOperand_98 : decode cX8_anOperand 98 = .ok (.getfield 126, 3) := by decide +kernel
theorem dX8_anOperand_101 : decode cX8_anOperand 101 = .ok (.bipush 35, 2) := by decide +kernel
theorem dX8_anOperand_103 : decode cX8_anOperand 103 = .ok (.if_icmp .eq 12, 3) := by decide +kernel
theorem dX8_anOperand_106 : decode cX8_anOperand 106 = .ok (.aload_n 0, 1) := by decide +kernel
theorem dX8_anOperand_107 : decode cX8_anOperand 107 = .ok (.getfield 126, 3) := by decide +kernel
theorem dX8_anOperand_110 : decode cX8_anOperand 110 = .ok (.bipush 36, 2) := by decide +kernel
theorem dX8_anOperand_112 : decode cX8_anOperand 112 = .ok (.if_icmp .ne 38, 3) := by decide +kernel
theorem dX8_anOperand_115 : decode cX8_anOperand 115 = .ok (.aload_n 0, 1) := by decide +kernel
theorem dX8_anOperand_116 : decode cX8_anOperand 116 = .ok (.aload_n 0, 1) := by decide +kernel
theorem dX8_anOperand_117 : decode cX8_anOperand 117 = .ok (.bipush 31, 2) := by decide +kernel
theorem dX8_anOperand_119 : decode cX8_anOperand 119 = .ok (.aload_n 0, 1) := by decide +kernel
theorem dX8_anOperand_120 : decode cX8_anOperand 120 = .ok (.getfield 119, 3) := by decide +kernel
theorem dX8_anOperand_123 : decode cX8_anOperand 123 = .ok (.aload_n 0, 1) := by decide +kernel
theorem dX8_anOperand_124 : decode cX8_anOperand 124 = .ok (.getfield 126, 3) := by decide +kernel
theorem dX8_anOperand_127 : decode cX8_anOperand 127 = .ok (.bipush 35, 2) := by decide +kernel
theorem dX8_anOperand_129 : decode cX8_anOperand 129 = .ok (.if_icmp .ne 7, 3) := by decide +kernel
theorem dX8_anOperand_132 : decode cX8_anOperand 132 = .ok (.iconst 1, 1) := by decide +kernel
theorem dX8_anOperand_133 : decode cX8_anOperand 133 = .ok (.goto 4, 3) := by decide +kernel
theorem dX8_anOperand_136 : decode cX8_anOperand 136 = .ok (.iconst 0, 1) := by decide +kernel
theorem dX8_anOperand_137 : decode cX8_anOperand 137 = .ok (.invokevirtual 188, 3) := by decide +kernel
theorem dX8_anOperand_140 : decode cX8_anOperand 140 = .ok (.invokevirtual 290, 3) := by decide +kernel
theorem dX8_anOperand_143 : decode cX8_anOperand 143 = .ok (.aload_n 0, 1) := by decide +kernel
theorem dX8_anOperand_144 : decode cX8_anOperand 144 = .ok (.invokevirtual 208, 3) := by decide +kernel
theorem dX8_anOperand_147 : decode cX8_anOperand 147 = .ok (.goto 67, 3) := by decide +kernel
theorem dX8_anOperand_150 : decode cX8_anOperand 150 = .ok (.aload_n 0, 1) := by decide +kernel
theorem dX8_anOperand_151 : decode cX8_anOperand 151 = .ok (.getfield 126, 3) := by decide +kernel
theorem dX8_anOperand_154 : decode cX8_anOperand 154 = .ok (.bipush 55, 2) := by decide +kernel
theorem dX8_anOperand_156 : decode cX8_anOperand 156 = .ok (.if_icmp .ne 27, 3) := by decide +kernel
theorem dX8_anOperand_159 : decode cX8_anOperand 159 = .ok (.aload_n 0, 1) := by decide +kernel
theorem dX8_anOperand_160 : decode cX8_anOperand 160 = .ok (.invokevirtual 250, 3) := by decide +kernel
theorem dX8_anOperand_163 : decode cX8_anOperand 163 = .ok (.ifCond .eq 51, 3) := by decide +kernel
theorem dX8_anOperand_166 : decode cX8_anOperand 166 = .ok (.aload_n 0, 1) := by decide +kernel
theorem dX8_anOperand_167 : decode cX8_anOperand 167 = .ok (.sipush 138, 3) := by decide +kernel
theorem dX8_anOperand_170 : decode cX8_anOperand 170 = .ok (.sipush 134, 3) := by decide +kernel
theorem dX8_anOperand_173 : decode cX8_anOperand 173 = .ok (.invokevirtual 205, 3) := by decide +kernel
theorem dX8_anOperand_176 : decode cX8_anOperand 176 = .ok (.aload_n 0, 1) := by decide +kernel
theorem dX8_anOperand_177 : decode cX8_anOperand 177 = .ok (.invokevirtual 208, 3) := by decide +kernel
theorem dX8_anOperand_180 : decode cX8_anOperand 180 = .ok (.goto 34, 3) := by decide +kernel
theorem dX8_anOperand_183 : decode cX8_anOperand 183 = .ok (.aload_n 0, 1) := by decide +kernel
theorem dX8_anOperand_184 : decode cX8_anOperand 184 = .ok (.getfield 126, 3) := by decide +kernel
theorem dX8_anOperand_187 : decode cX8_anOperand 187 = .ok (.bipush 80, 2) := by decide +kernel
theorem dX8_anOperand_189 : decode cX8_anOperand 189 = .ok (.if_icmp .ne 21, 3) := by decide +kernel
theorem dX8_anOperand_192 : decode cX8_anOperand 192 = .ok (.aload_n 0, 1) := by decide +kernel
theorem dX8_anOperand_193 : decode cX8_anOperand 193 = .ok (.invokevirtual 247, 3) := by decide +kernel
theorem dX8_anOperand_196 : decode cX8_anOperand 196 = .ok (.aload_n 0, 1) := by decide +kernel
theorem dX8_anOperand_197 : decode cX8_anOperand 197 = .ok (.sipush 139, 3) := by decide +kernel
theorem dX8_anOperand_200 : decode cX8_anOperand 200 = .ok (.invokevirtual 201, 3) := by decide +kernel
theorem dX8_anOperand_203 : decode cX8_anOperand 203 = .ok (.aload_n 0, 1) := by decide +kernel
theorem dX8_anOperand_204 : decode cX8_anOperand 204 = .ok (.invokevirtual 208, 3) := by decide +kernel
theorem dX8_anOperand_207 : decode cX8_anOperand 207 = .ok (.goto 7, 3) := by decide +kernel
theorem dX8_anOperand_210 : decode cX8_anOperand 210 = .ok (.aload_n 0, 1) := by decide +kernel
theorem dX8_anOperand_211 : decode cX8_anOperand 211 = .ok (.invokevirtual 211, 3) := by decide +kernel
theorem dX8_anOperand_214 : decode cX8_anOperand 214 = .ok (.return_, 1) := by decide +kernel

theorem dX8_groupEnd_0 : decode cX8_groupEnd 0 = .ok (.aload_n 0, 1) := by decide +kernel
theorem dX8_groupEnd_1 : decode cX8_groupEnd 1 = .ok (.dup, 1) := by decide +kernel
theorem dX8_groupEnd_2 : decode cX8_groupEnd 2 = .ok (.getfield 214, 3) := by decide +kernel
theorem dX8_groupEnd_5 : decode cX8_groupEnd 5 = .ok (.iconst 1, 1) := by decide +kernel
theorem dX8_groupEnd_6 : decode cX8_groupEnd 6 = .ok (.isub, 1) := by decide +kernel
theorem dX8_groupEnd_7 : decode cX8_groupEnd 7 = .ok (.putfield 214, 3) := by decide +kernel
theorem dX8_groupEnd_10 : decode cX8_groupEnd 10 = .ok (.aload_n 0, 1) := by decide +kernel
theorem dX8_groupEnd_11 : decode cX8_groupEnd 11 = .ok (.aload_n 0, 1) := by decide +kernel
theorem dX8_groupEnd_12 : decode cX8_groupEnd 12 = .ok (.invokevirtual 280, 3) := by decide +kernel
theorem dX8_groupEnd_15 : decode cX8_groupEnd 15 = .ok (.invokevirtual 290, 3) := by decide +kernel
theorem dX8_groupEnd_18 : decode cX8_groupEnd 18 = .ok (.aload_n 0, 1) := by decide +kernel
theorem dX8_groupEnd_19 : decode cX8_groupEnd 19 = .ok (.bipush 56, 2) := by decide +kernel
theorem dX8_groupEnd_21 : decode cX8_groupEnd 21 = .ok (.invokevirtual 235, 3) := by decide +kernel
theorem dX8_groupEnd_24 : decode cX8_groupEnd 24 = .ok (.return_, 1) := by decide +kernel

theorem dX8_start_0 : decode cX8_start 0 = .ok (.aload_n 0, 1) := by decide +kernel
theorem dX8_start_1 : decode cX8_start 1 = .ok (.getfield 68, 3) := by decide +kernel
theorem dX8_start_4 : decode cX8_start 4 = .ok (.aload_n 0, 1) := by decide +kernel
theorem dX8_start_5 : decode cX8_start 5 = .ok (.getfield 293, 3) := by decide +kernel
theorem dX8_start_8 : decode cX8_start 8 = .ok (.aload_n 0, 1) := by decide +kernel
theorem dX8_start_9 : decode cX8_start 9 = .ok (.iload_n 1, 1) := by decide +kernel
theorem dX8_start_10 : decode cX8_start 10 = .ok (.aload_n 0, 1) := by decide +kernel
theorem dX8_start_11 : decode cX8_start 11 = .ok (.getfield 217, 3) := by decide +kernel
theorem dX8_start_14 : decode cX8_start 14 = .ok (.aload_n 0, 1) := by decide +kernel
theorem dX8_start_15 : decode cX8_start 15 = .ok (.getfield 220, 3) := by decide +kernel
theorem dX8_start_18 : decode cX8_start 18 = .ok (.invokevirtual 188, 3) := by decide +kernel
theorem dX8_start_21 : decode cX8_start 21 = .ok (.iastore, 1) := by decide +kernel
theorem dX8_start_22 : decode cX8_start 22 = .ok (.aload_n 0, 1) := by decide +kernel
theorem dX8_start_23 : decode cX8_start 23 = .ok (.dup, 1) := by decide +kernel
theorem dX8_start_24 : decode cX8_start 24 = .ok (.getfield 293, 3) := by decide +kernel
theorem dX8_start_27 : decode cX8_start 27 = .ok (.iconst 1, 1) := by decide +kernel
theorem dX8_start_28 : decode cX8_start 28 = .ok (.iadd, 1) := by decide +kernel
theorem dX8_start_29 : decode cX8_start 29 = .ok (.putfield 293, 3) := by decide +kernel
theorem dX8_start_32 : decode cX8_start 32 = .ok (.return_, 1) := by decide +kernel

theorem dX8_behindOperand_0 : decode cX8_behindOperand 0 = .ok (.aload_n 0, 1) := by decide +kernel
theorem dX8_behindOperand_1 : decode cX8_behindOperand 1 = .ok (.getfield 126, 3) := by decide +kernel
theorem dX8_behindOperand_4 : decode cX8_behindOperand 4 = .ok (.bipush 57, 2) := by decide +kernel
theorem dX8_behindOperand_6 : decode cX8_behindOperand 6 = .ok (.if_icmp .ne 33, 3) := by decide +kernel
theorem dX8_behindOperand_9 : decode cX8_behindOperand 9 = .ok (.aload_n 0, 1) := by decide +kernel
theorem dX8_behindOperand_10 : decode cX8_behindOperand 10 = .ok (.invokevirtual 250, 3) := by decide +kernel
theorem dX8_behindOperand_13 : decode cX8_behindOperand 13 = .ok (.ifCond .eq 112, 3) := by decide +kernel
theorem dX8_behindOperand_16 : decode cX8_behindOperand 16 = .ok (.aload_n 0, 1) := by decide +kernel
theorem dX8_behindOperand_17 : decode cX8_behindOperand 17 = .ok (.bipush 32, 2) := by decide +kernel
theorem dX8_behindOperand_19 : decode cX8_behindOperand 19 = .ok (.invokevirtual 296, 3) := by decide +kernel
theorem dX8_behindOperand_22 : decode cX8_behindOperand 22 = .ok (.aload_n 0, 1) := by decide +kernel
theorem dX8_behindOperand_23 : decode cX8_behindOperand 23 = .ok (.sipush 140, 3) := by decide +kernel
theorem dX8_behindOperand_26 : decode cX8_behindOperand 26 = .ok (.sipush 134, 3) := by decide +kernel
theorem dX8_behindOperand_29 : decode cX8_behindOperand 29 = .ok (.invokevirtual 205, 3) := by decide +kernel
theorem dX8_behindOperand_32 : decode cX8_behindOperand 32 = .ok (.aload_n 0, 1) := by decide +kernel
theorem dX8_behindOperand_33 : decode cX8_behindOperand 33 = .ok (.invokevirtual 208, 3) := by decide +kernel
theorem dX8_behindOperand_36 : decode cX8_behindOperand 36 = .ok (.goto 89, 3) := by decide +kernel
theorem dX8_behindOperand_39 : decode cX8_behindOperand 39 = .ok (.aload_n 0, 1) := by decide +kernel
theorem dX8_behindOperand_40 : decode cX8_behindOperand 40 = .ok (.getfield 126, 3) := by decide +kernel
theorem dX8_behindOperand_43 : decode cX8_behindOperand 43 = .ok (.bipush 62, 2) := by decide +kernel
theorem dX8_behindOperand_45 : decode cX8_behindOperand 45 = .ok (.if_icmp .ne 23, 3) := by decide +kernel
theorem dX8_behindOperand_48 : decode cX8_behindOperand 48 = .ok (.aload_n 0, 1) := by decide +kernel
theorem dX8_behindOperand_49 : decode cX8_behindOperand 49 = .ok (.bipush 33, 2) := by decide +kernel
theorem dX8_behindOperand_51 : decode cX8_behindOperand 51 = .ok (.invokevirtual 296, 3) := by decide +kernel
theorem dX8_behindOperand_54 : decode cX8_behindOperand 54 = .ok (.aload_n 0, 1) := by decide +kernel
theorem dX8_behindOperand_55 : decode cX8_behindOperand 55 = .ok (.sipush 141, 3) := by decide +kernel
theorem dX8_behindOperand_58 : decode cX8_behindOperand 58 = .ok (.invokevirtual 201, 3) := by decide +kernel
theorem dX8_behindOperand_61 : decode cX8_behindOperand 61 = .ok (.aload_n 0, 1) := by decide +kernel
theorem dX8_behindOperand_62 : decode cX8_behindOperand 62 = .ok (.invokevirtual 208, 3) := by decide +kernel
theorem dX8_behindOperand_65 : decode cX8_behindOperand 65 = .ok (.goto 60, 3) := by decide +kernel
theorem dX8_behindOperand_68 : decode cX8_behindOperand 68 = .ok (.aload_n 0, 1) := by decide +kernel
theorem dX8_behindOperand_69 : decode cX8_behindOperand 69 = .ok (.getfield 126, 3) := by decide +kernel
theorem dX8_behindOperand_72 : decode cX8_behindOperand 72 = .ok (.bipush 55, 2) := by decide +kernel
theorem dX8_behindOperand_74 : decode cX8_behindOperand 74 = .ok (.if_icmp .ne 33, 3) := by decide +kernel
theorem dX8_behindOperand_77 : decode cX8_behindOperand 77 = .ok (.aload_n 0, 1) := by decide +kernel
theorem dX8_behindOperand_78 : decode cX8_behindOperand 78 = .ok (.invokevirtual 250, 3) := by decide +kernel
theorem dX8_behindOperand_81 : decode cX8_behindOperand 81 = .ok (.ifCond .eq 44, 3) := by decide +kernel
theorem dX8_behindOperand_84 : decode cX8_behindOperand 84 = .ok (.aload_n 0, 1) := by decide +kernel
theorem dX8_behindOperand_85 : decode cX8_behindOperand 85 = .ok (.bipush 34, 2) := by decide +kernel
theorem dX8_behindOperand_87 : decode cX8_behindOperand 87 = .ok (.invokevirtual 296, 3) := by decide +kernel
theorem dX8_behindOperand_90 : decode cX8_behindOperand 90 = .ok (.aload_n 0, 1) := by decide +kernel
theorem dX8_behindOperand_91 : decode cX8_behindOperand 91 = .ok (.sipush 143, 3) := by decide +kernel
theorem dX8_behindOperand_94 : decode cX8_behindOperand 94 = .ok (.sipush 142, 3) := by decide +kernel
theorem dX8_behindOperand_97 : decode cX8_behindOperand 97 = .ok (.invokevirtual 205, 3) := by decide +kernel
theorem dX8_behindOperand_100 : decode cX8_behindOperand 100 = .ok (.aload_n 0, 1) := by decide +kernel
theorem dX8_behindOperand_101 : decode cX8_behindOperand 101 = .ok (.invokevirtual 208, 3) := by decide +kernel
theorem dX8_behindOperand_104 : decode cX8_behindOperand 104 = .ok (.goto 21, 3) := by decide +kernel
theorem dX8_behindOperand_107 : decode cX8_behindOperand 107 = .ok (.aload_n 0, 1) := by decide +kernel
theorem dX8_behindOperand_108 : decode cX8_behindOperand 108 = .ok (.aload_n 0, 1) := by decide +kernel
theorem dX8_behindOperand_109 : decode cX8_behindOperand 109 = .ok (.bipush 6, 2) := by decide +kernel
theorem dX8_behindOperand_111 : decode cX8_behindOperand 111 = .ok (.aload_n 0, 1) := by decide +kernel
theorem dX8_behindOperand_112 : decode cX8_behindOperand 112 = .ok (.getfield 217, 3) := by decide +kernel
theorem dX8_behindOperand_115 : decode cX8_behindOperand 115 = .ok (.aload_n 0, 1) := by decide +kernel
theorem dX8_behindOperand_116 : decode cX8_behindOperand 116 = .ok (.getfield 220, 3) := by decide +kernel
theorem dX8_behindOperand_119 : decode cX8_behindOperand 119 = .ok (.invokevirtual 188, 3) := by decide +kernel
theorem dX8_behindOperand_122 : decode cX8_behindOperand 122 = .ok (.invokevirtual 290, 3) := by decide +kernel
theorem dX8_behindOperand_125 : decode cX8_behindOperand 125 = .ok (.return_, 1) := by decide +kernel

theorem dX8_finish_0 : decode cX8_finish 0 = .ok (.aload_n 0, 1) := by decide +kernel
theorem dX8_finish_1 : decode cX8_finish 1 = .ok (.dup, 1) := by decide +kernel
theorem dX8_finish_2 : decode cX8_finish 2 = .ok (.getfield 293, 3) := by decide +kernel
theorem dX8_finish_5 : decode cX8_finish 5 = .ok (.iconst 1, 1) := by decide +kernel
theorem dX8_finish_6 : decode cX8_finish 6 = .ok (.isub, 1) := by decide +kernel
theorem dX8_finish_7 : decode cX8_finish 7 = .ok (.putfield 293, 3) := by decide +kernel
theorem dX8_finish_10 : decode cX8_finish 10 = .ok (.aload_n 0, 1) := by decide +kernel
theorem dX8_finish_11 : decode cX8_finish 11 = .ok (.aload_n 0, 1) := by decide +kernel
theorem dX8_finish_12 : decode cX8_finish 12 = .ok (.getfield 68, 3) := by decide +kernel
theorem dX8_finish_15 : decode cX8_finish 15 = .ok (.aload_n 0, 1) := by decide +kernel
theorem dX8_finish_16 : decode cX8_finish 16 = .ok (.getfield 293, 3) := by decide +kernel
theorem dX8_finish_19 : decode cX8_finish 19 = .ok (.iaload, 1) := by decide +kernel
theorem dX8_finish_20 : decode cX8_finish 20 = .ok (.invokevirtual 290, 3) := by decide +kernel
theorem dX8_finish_23 : decode cX8_finish 23 = .ok (.return_, 1) := by decide +kernel

theorem dX8_argument_0 : decode cX8_argument 0 = .ok (.aload_n 0, 1) := by decide +kernel
theorem dX8_argument_1 : decode cX8_argument 1 = .ok (.aload_n 0, 1) := by decide +kernel
theorem dX8_argument_2 : decode cX8_argument 2 = .ok (.invokevirtual 280, 3) := by decide +kernel
theorem dX8_argument_5 : decode cX8_argument 5 = .ok (.aload_n 0, 1) := by decide +kernel
theorem dX8_argument_6 : decode cX8_argument 6 = .ok (.getfield 68, 3) := by decide +kernel
theorem dX8_argument_9 : decode cX8_argument 9 = .ok (.aload_n 0, 1) := by decide +kernel
theorem dX8_argument_10 : decode cX8_argument 10 = .ok (.getfield 293, 3) := by decide +kernel
theorem dX8_argument_13 : decode cX8_argument 13 = .ok (.iconst 1, 1) := by decide +kernel
theorem dX8_argument_14 : decode cX8_argument 14 = .ok (.isub, 1) := by decide +kernel
theorem dX8_argument_15 : decode cX8_argument 15 = .ok (.iaload, 1) := by decide +kernel
theorem dX8_argument_16 : decode cX8_argument 16 = .ok (.invokevirtual 195, 3) := by decide +kernel
theorem dX8_argument_19 : decode cX8_argument 19 = .ok (.return_, 1) := by decide +kernel

theorem dX8_elementEnd_0 : decode cX8_elementEnd 0 = .ok (.aload_n 0, 1) := by decide +kernel
theorem dX8_elementEnd_1 : decode cX8_elementEnd 1 = .ok (.dup, 1) := by decide +kernel
theorem dX8_elementEnd_2 : decode cX8_elementEnd 2 = .ok (.getfield 214, 3) := by decide +kernel
theorem dX8_elementEnd_5 : decode cX8_elementEnd 5 = .ok (.iconst 1, 1) := by decide +kernel
theorem dX8_elementEnd_6 : decode cX8_elementEnd 6 = .ok (.isub, 1) := by decide +kernel
theorem dX8_elementEnd_7 : decode cX8_elementEnd 7 = .ok (.putfield 214, 3) := by decide +kernel
theorem dX8_elementEnd_10 : decode cX8_elementEnd 10 = .ok (.aload_n 0, 1) := by decide +kernel
theorem dX8_elementEnd_11 : decode cX8_elementEnd 11 = .ok (.invokevirtual 299, 3) := by decide +kernel
theorem dX8_elementEnd_14 : decode cX8_elementEnd 14 = .ok (.aload_n 0, 1) := by decide +kernel
theorem dX8_elementEnd_15 : decode cX8_elementEnd 15 = .ok (.invokevirtual 302, 3) := by decide +kernel
theorem dX8_elementEnd_18 : decode cX8_elementEnd 18 = .ok (.aload_n 0, 1) := by decide +kernel
theorem dX8_elementEnd_19 : decode cX8_elementEnd 19 = .ok (.bipush 58, 2) := by decide +kernel
theorem dX8_elementEnd_21 : decode cX8_elementEnd 21 = .ok (.invokevirtual 235, 3) := by decide +kernel
theorem dX8_elementEnd_24 : decode cX8_elementEnd 24 = .ok (.return_, 1) := by decide +kernel

theorem dX8_output_0 : decode cX8_output 0 = .ok (.aload_n 0, 1) := by decide +kernel
theorem dX8_output_1 : decode cX8_output 1 = .ok (.aload_n 0, 1) := by decide +kernel
theorem dX8_output_2 : decode cX8_output 2 = .ok (.bipush 6, 2) := by decide +kernel
theorem dX8_output_4 : decode cX8_output 4 = .ok (.aload_n 0, 1) := by decide +kernel
theorem dX8_output_5 : decode cX8_output 5 = .ok (.getfield 119, 3) := by decide +kernel
theorem dX8_output_8 : decode cX8_output 8 = .ok (.aload_n 0, 1) := by decide +kernel
theorem dX8_output_9 : decode cX8_output 9 = .ok (.getfield 132, 3) := by decide +kernel
theorem dX8_output_12 : decode cX8_output 12 = .ok (.invokevirtual 188, 3) := by decide +kernel
theorem dX8_output_15 : decode cX8_output 15 = .ok (.aload_n 0, 1) := by decide +kernel
theorem dX8_output_16 : decode cX8_output 16 = .ok (.getfield 68, 3) := by decide +kernel
theorem dX8_output_19 : decode cX8_output 19 = .ok (.aload_n 0, 1) := by decide +kernel
theorem dX8_output_20 : decode cX8_output 20 = .ok (.getfield 293, 3) := by decide +kernel
theorem dX8_output_23 : decode cX8_output 23 = .ok (.iconst 1, 1) := by decide +kernel
theorem dX8_output_24 : decode cX8_output 24 = .ok (.isub, 1) := by decide +kernel
theorem dX8_output_25 : decode cX8_output 25 = .ok (.iaload, 1) := by decide +kernel
theorem dX8_output_26 : decode cX8_output 26 = .ok (.invokevirtual 195, 3) := by decide +kernel
theorem dX8_output_29 : decode cX8_output 29 = .ok (.aload_n 0, 1) := by decide +kernel
theorem dX8_output_30 : decode cX8_output 30 = .ok (.invokevirtual 302, 3) := by decide +kernel
theorem dX8_output_33 : decode cX8_output 33 = .ok (.aload_n 0, 1) := by decide +kernel
theorem dX8_output_34 : decode cX8_output 34 = .ok (.bipush 80, 2) := by decide +kernel
theorem dX8_output_36 : decode cX8_output 36 = .ok (.invokevirtual 235, 3) := by decide +kernel
theorem dX8_output_39 : decode cX8_output 39 = .ok (.return_, 1) := by decide +kernel

theorem dX8_resultEnd_0 : decode cX8_resultEnd 0 = .ok (.aload_n 0, 1) := by decide +kernel
theorem dX8_resultEnd_1 : decode cX8_resultEnd 1 = .ok (.dup, 1) := by decide +kernel
theorem dX8_resultEnd_2 : decode cX8_resultEnd 2 = .ok (.getfield 214, 3) := by decide +kernel
theorem dX8_resultEnd_5 : decode cX8_resultEnd 5 = .ok (.iconst 1, 1) := by decide +kernel
theorem dX8_resultEnd_6 : decode cX8_resultEnd 6 = .ok (.isub, 1) := by decide +kernel
theorem dX8_resultEnd_7 : decode cX8_resultEnd 7 = .ok (.putfield 214, 3) := by decide +kernel
theorem dX8_resultEnd_10 : decode cX8_resultEnd 10 = .ok (.aload_n 0, 1) := by decide +kernel
theorem dX8_resultEnd_11 : decode cX8_resultEnd 11 = .ok (.invokevirtual 302, 3) := by decide +kernel
theorem dX8_resultEnd_14 : decode cX8_resultEnd 14 = .ok (.aload_n 0, 1) := by decide +kernel
theorem dX8_resultEnd_15 : decode cX8_resultEnd 15 = .ok (.bipush 56, 2) := by decide +kernel
theorem dX8_resultEnd_17 : decode cX8_resultEnd 17 = .ok (.invokevirtual 235, 3) := by decide +kernel
theorem dX8_resultEnd_20 : decode cX8_resultEnd 20 = .ok (.return_, 1) := by decide +kernel
