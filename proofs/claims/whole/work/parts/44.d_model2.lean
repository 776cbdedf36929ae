theorem dX8_unit_0 : decode cX8_unit 0 = .ok (.aload_n 0, 1) := by decide +kernel
theorem dX8_unit_1 : decode cX8_unit 1 = .ok (.aload_n 0, 1) := by decide +kernel
theorem dX8_unit_2 : decode cX8_unit 2 = .ok (.getfield 103, 3) := by decide +kernel
theorem dX8_unit_5 : decode cX8_unit 5 = .ok (.invokevirtual 89, 3) := by decide +kernel
theorem dX8_unit_8 : decode cX8_unit 8 = .ok (.invokestatic 110, 3) := by decide +kernel
theorem dX8_unit_11 : decode cX8_unit 11 = .ok (.istore_n 1, 1) := by decide +kernel
theorem dX8_unit_12 : decode cX8_unit 12 = .ok (.aload_n 0, 1) := by decide +kernel
theorem dX8_unit_13 : decode cX8_unit 13 = .ok (.aload_n 0, 1) := by decide +kernel
theorem dX8_unit_14 : decode cX8_unit 14 = .ok (.getfield 103, 3) := by decide +kernel
theorem dX8_unit_17 : decode cX8_unit 17 = .ok (.iconst 1, 1) := by decide +kernel
theorem dX8_unit_18 : decode cX8_unit 18 = .ok (.iadd, 1) := by decide +kernel
theorem dX8_unit_19 : decode cX8_unit 19 = .ok (.invokevirtual 89, 3) := by decide +kernel
theorem dX8_unit_22 : decode cX8_unit 22 = .ok (.invokestatic 110, 3) := by decide +kernel
theorem dX8_unit_25 : decode cX8_unit 25 = .ok (.istore_n 2, 1) := by decide +kernel
theorem dX8_unit_26 : decode cX8_unit 26 = .ok (.aload_n 0, 1) := by decide +kernel
theorem dX8_unit_27 : decode cX8_unit 27 = .ok (.dup, 1) := by decide +kernel
theorem dX8_unit_28 : decode cX8_unit 28 = .ok (.getfield 103, 3) := by decide +kernel
theorem dX8_unit_31 : decode cX8_unit 31 = .ok (.iload_n 1, 1) := by decide +kernel
theorem dX8_unit_32 : decode cX8_unit 32 = .ok (.bipush 77, 2) := by decide +kernel
theorem dX8_unit_34 : decode cX8_unit 34 = .ok (.if_icmp .ne 13, 3) := by decide +kernel
theorem dX8_unit_37 : decode cX8_unit 37 = .ok (.iload_n 2, 1) := by decide +kernel
theorem dX8_unit_38 : decode cX8_unit 38 = .ok (.bipush 83, 2) := by decide +kernel
theorem dX8_unit_40 : decode cX8_unit 40 = .ok (.if_icmp .ne 7, 3) := by decide +kernel
theorem dX8_unit_43 : decode cX8_unit 43 = .ok (.iconst 2, 1) := by decide +kernel
theorem dX8_unit_44 : decode cX8_unit 44 = .ok (.goto 4, 3) := by decide +kernel
theorem dX8_unit_47 : decode cX8_unit 47 = .ok (.iconst 1, 1) := by decide +kernel
theorem dX8_unit_48 : decode cX8_unit 48 = .ok (.iadd, 1) := by decide +kernel
theorem dX8_unit_49 : decode cX8_unit 49 = .ok (.putfield 103, 3) := by decide +kernel
theorem dX8_unit_52 : decode cX8_unit 52 = .ok (.iload_n 1, 1) := by decide +kernel
theorem dX8_unit_53 : decode cX8_unit 53 = .ok (.bipush 77, 2) := by decide +kernel
theorem dX8_unit_55 : decode cX8_unit 55 = .ok (.if_icmp .ne 13, 3) := by decide +kernel
theorem dX8_unit_58 : decode cX8_unit 58 = .ok (.iload_n 2, 1) := by decide +kernel
theorem dX8_unit_59 : decode cX8_unit 59 = .ok (.bipush 83, 2) := by decide +kernel
theorem dX8_unit_61 : decode cX8_unit 61 = .ok (.if_icmp .ne 7, 3) := by decide +kernel
theorem dX8_unit_64 : decode cX8_unit 64 = .ok (.lconst 1, 1) := by decide +kernel
theorem dX8_unit_65 : decode cX8_unit 65 = .ok (.goto 40, 3) := by decide +kernel
theorem dX8_unit_68 : decode cX8_unit 68 = .ok (.iload_n 1, 1) := by decide +kernel
theorem dX8_unit_69 : decode cX8_unit 69 = .ok (.bipush 83, 2) := by decide +kernel
theorem dX8_unit_71 : decode cX8_unit 71 = .ok (.if_icmp .ne 9, 3) := by decide +kernel
theorem dX8_unit_74 : decode cX8_unit 74 = .ok (.ldc2_w 142, 3) := by decide +kernel
theorem dX8_unit_77 : decode cX8_unit 77 = .ok (.goto 28, 3) := by decide +kernel
theorem dX8_unit_80 : decode cX8_unit 80 = .ok (.iload_n 1, 1) := by decide +kernel
theorem dX8_unit_81 : decode cX8_unit 81 = .ok (.bipush 77, 2) := by decide +kernel
theorem dX8_unit_83 : decode cX8_unit 83 = .ok (.if_icmp .ne 9, 3) := by decide +kernel
theorem dX8_unit_86 : decode cX8_unit 86 = .ok (.ldc2_w 144, 3) := by decide +kernel
theorem dX8_unit_89 : decode cX8_unit 89 = .ok (.goto 16, 3) := by decide +kernel
theorem dX8_unit_92 : decode cX8_unit 92 = .ok (.iload_n 1, 1) := by decide +kernel
theorem dX8_unit_93 : decode cX8_unit 93 = .ok (.bipush 72, 2) := by decide +kernel
theorem dX8_unit_95 : decode cX8_unit 95 = .ok (.if_icmp .ne 9, 3) := by decide +kernel
theorem dX8_unit_98 : decode cX8_unit 98 = .ok (.ldc2_w 146, 3) := by decide +kernel
theorem dX8_unit_101 : decode cX8_unit 101 = .ok (.goto 4, 3) := by decide +kernel
theorem dX8_unit_104 : decode cX8_unit 104 = .ok (.lconst 0, 1) := by decide +kernel
theorem dX8_unit_105 : decode cX8_unit 105 = .ok (.lreturn, 1) := by decide +kernel

theorem dX8_readNumber_0 : decode cX8_readNumber 0 = .ok (.aload_n 0, 1) := by decide +kernel
theorem dX8_readNumber_1 : decode cX8_readNumber 1 = .ok (.iload_n 1, 1) := by decide +kernel
theorem dX8_readNumber_2 : decode cX8_readNumber 2 = .ok (.ifCond .eq 12, 3) := by decide +kernel
theorem dX8_readNumber_5 : decode cX8_readNumber 5 = .ok (.aload_n 0, 1) := by decide +kernel
theorem dX8_readNumber_6 : decode cX8_readNumber 6 = .ok (.getfield 119, 3) := by decide +kernel
theorem dX8_readNumber_9 : decode cX8_readNumber 9 = .ok (.iconst 2, 1) := by decide +kernel
theorem dX8_readNumber_10 : decode cX8_readNumber 10 = .ok (.iadd, 1) := by decide +kernel
theorem dX8_readNumber_11 : decode cX8_readNumber 11 = .ok (.goto 7, 3) := by decide +kernel
theorem dX8_readNumber_14 : decode cX8_readNumber 14 = .ok (.aload_n 0, 1) := by decide +kernel
theorem dX8_readNumber_15 : decode cX8_readNumber 15 = .ok (.getfield 119, 3) := by decide +kernel
theorem dX8_readNumber_18 : decode cX8_readNumber 18 = .ok (.putfield 103, 3) := by decide +kernel
theorem dX8_readNumber_21 : decode cX8_readNumber 21 = .ok (.aload_n 0, 1) := by decide +kernel
theorem dX8_readNumber_22 : decode cX8_readNumber 22 = .ok (.bipush 10, 2) := by decide +kernel
theorem dX8_readNumber_24 : decode cX8_readNumber 24 = .ok (.invokevirtual 148, 3) := by decide +kernel
theorem dX8_readNumber_27 : decode cX8_readNumber 27 = .ok (.lstore_n 2, 1) := by decide +kernel
theorem dX8_readNumber_28 : decode cX8_readNumber 28 = .ok (.lload_n 2, 1) := by decide +kernel
theorem dX8_readNumber_29 : decode cX8_readNumber 29 = .ok (.lconst 0, 1) := by decide +kernel
theorem dX8_readNumber_30 : decode cX8_readNumber 30 = .ok (.lcmp, 1) := by decide +kernel
theorem dX8_readNumber_31 : decode cX8_readNumber 31 = .ok (.ifCond .lt 7, 3) := by decide +kernel
theorem dX8_readNumber_34 : decode cX8_readNumber 34 = .ok (.iconst 1, 1) := by decide +kernel
theorem dX8_readNumber_35 : decode cX8_readNumber 35 = .ok (.goto 4, 3) := by decide +kernel
theorem dX8_readNumber_38 : decode cX8_readNumber 38 = .ok (.iconst 0, 1) := by decide +kernel
theorem dX8_readNumber_39 : decode cX8_readNumber 39 = .ok (.istore 4, 2) := by decide +kernel
theorem dX8_readNumber_41 : decode cX8_readNumber 41 = .ok (.iload_n 1, 1) := by decide +kernel
theorem dX8_readNumber_42 : decode cX8_readNumber 42 = .ok (.ifCond .eq 36, 3) := by decide +kernel
theorem dX8_readNumber_45 : decode cX8_readNumber 45 = .ok (.iload 4, 2) := by decide +kernel
theorem dX8_readNumber_47 : decode cX8_readNumber 47 = .ok (.ifCond .eq 31, 3) := by decide +kernel
theorem dX8_readNumber_50 : decode cX8_readNumber 50 = .ok (.aload_n 0, 1) := by decide +kernel
theorem dX8_readNumber_51 : decode cX8_readNumber 51 = .ok (.invokevirtual 152, 3) := by decide +kernel
theorem dX8_readNumber_54 : decode cX8_readNumber 54 = .ok (.lstore 5, 2) := by decide +kernel
theorem dX8_readNumber_56 : decode cX8_readNumber 56 = .ok (.lload 5, 2) := by decide +kernel
theorem dX8_readNumber_58 : decode cX8_readNumber 58 = .ok (.lconst 0, 1) := by decide +kernel
theorem dX8_readNumber_59 : decode cX8_readNumber 59 = .ok (.lcmp, 1) := by decide +kernel
theorem dX8_readNumber_60 : decode cX8_readNumber 60 = .ok (.ifCond .le 7, 3) := by decide +kernel
theorem dX8_readNumber_63 : decode cX8_readNumber 63 = .ok (.iconst 1, 1) := by decide +kernel
theorem dX8_readNumber_64 : decode cX8_readNumber 64 = .ok (.goto 4, 3) := by decide +kernel
theorem dX8_readNumber_67 : decode cX8_readNumber 67 = .ok (.iconst 0, 1) := by decide +kernel
theorem dX8_readNumber_68 : decode cX8_readNumber 68 = .ok (.istore 4, 2) := by decide +kernel
theorem dX8_readNumber_70 : decode cX8_readNumber 70 = .ok (.lload_n 2, 1) := by decide +kernel
theorem dX8_readNumber_71 : decode cX8_readNumber 71 = .ok (.lload 5, 2) := by decide +kernel
theorem dX8_readNumber_73 : decode cX8_readNumber 73 = .ok (.lmul, 1) := by decide +kernel
theorem dX8_readNumber_74 : decode cX8_readNumber 74 = .ok (.lstore_n 2, 1) := by decide +kernel
theorem dX8_readNumber_75 : decode cX8_readNumber 75 = .ok (.goto 88, 3) := by decide +kernel
theorem dX8_readNumber_78 : decode cX8_readNumber 78 = .ok (.iload 4, 2) := by decide +kernel
theorem dX8_readNumber_80 : decode cX8_readNumber 80 = .ok (.ifCond .eq 83, 3) := by decide +kernel
theorem dX8_readNumber_83 : decode cX8_readNumber 83 = .ok (.aload_n 0, 1) := by decide +kernel
theorem dX8_readNumber_84 : decode cX8_readNumber 84 = .ok (.aload_n 0, 1) := by decide +kernel
theorem dX8_readNumber_85 : decode cX8_readNumber 85 = .ok (.getfield 103, 3) := by decide +kernel
theorem dX8_readNumber_88 : decode cX8_readNumber 88 = .ok (.invokevirtual 89, 3) := by decide +kernel
theorem dX8_readNumber_91 : decode cX8_readNumber 91 = .ok (.bipush 35, 2) := by decide +kernel
theorem dX8_readNumber_93 : decode cX8_readNumber 93 = .ok (.if_icmp .ne 70, 3) := by decide +kernel
theorem dX8_readNumber_96 : decode cX8_readNumber 96 = .ok (.aload_n 0, 1) := by decide +kernel
theorem dX8_readNumber_97 : decode cX8_readNumber 97 = .ok (.dup, 1) := by decide +kernel
theorem dX8_readNumber_98 : decode cX8_readNumber 98 = .ok (.getfield 103, 3) := by decide +kernel
theorem dX8_readNumber_101 : decode cX8_readNumber 101 = .ok (.iconst 1, 1) := by decide +kernel
theorem dX8_readNumber_102 : decode cX8_readNumber 102 = .ok (.iadd, 1) := by decide +kernel
theorem dX8_readNumber_103 : decode cX8_readNumber 103 = .ok (.putfield 103, 3) := by decide +kernel
theorem dX8_readNumber_106 : decode cX8_readNumber 106 = .ok (.lload_n 2, 1) := by decide +kernel
theorem dX8_readNumber_107 : decode cX8_readNumber 107 = .ok (.ldc2_w 156, 3) := by decide +kernel
theorem dX8_readNumber_110 : decode cX8_readNumber 110 = .ok (.lcmp, 1) := by decide +kernel
theorem dX8_readNumber_111 : decode cX8_readNumber 111 = .ok (.ifCond .eq 11, 3) := by decide +kernel
theorem dX8_readNumber_114 : decode cX8_readNumber 114 = .ok (.lload_n 2, 1) := by decide +kernel
theorem dX8_readNumber_115 : decode cX8_readNumber 115 = .ok (.ldc2_w 158, 3) := by decide +kernel
theorem dX8_readNumber_118 : decode cX8_readNumber 118 = .ok (.lcmp, 1) := by decide +kernel
theorem dX8_readNumber_119 : decode cX8_readNumber 119 = .ok (.ifCond .ne 7, 3) := by decide +kernel
theorem dX8_readNumber_122 : decode cX8_readNumber 122 = .ok (.iconst 1, 1) := by decide +kernel
theorem dX8_readNumber_123 : decode cX8_readNumber 123 = .ok (.goto 4, 3) := by decide +kernel
theorem dX8_readNumber_126 : decode cX8_readNumber 126 = .ok (.iconst 0, 1) := by decide +kernel
theorem dX8_readNumber_127 : decode cX8_readNumber 127 = .ok (.istore 4, 2) := by decide +kernel
theorem dX8_readNumber_129 : decode cX8_readNumber 129 = .ok (.iload 4, 2) := by decide +kernel
theorem dX8_readNumber_131 : decode cX8_readNumber 131 = .ok (.ifCond .eq 12, 3) := by decide +kernel
theorem dX8_readNumber_134 : decode cX8_readNumber 134 = .ok (.aload_n 0, 1) := by decide +kernel
theorem dX8_readNumber_135 : decode cX8_readNumber 135 = .ok (.lload_n 2, 1) := by decide +kernel
theorem dX8_readNumber_136 : decode cX8_readNumber 136 = .ok (.l2i, 1) := by decide +kernel
theorem dX8_readNumber_137 : decode cX8_readNumber 137 = .ok (.invokevirtual 148, 3) := by decide +kernel
theorem dX8_readNumber_140 : decode cX8_readNumber 140 = .ok (.goto 4, 3) := by decide +kernel
theorem dX8_readNumber_143 : decode cX8_readNumber 143 = .ok (.lload_n 2, 1) := by decide +kernel
theorem dX8_readNumber_144 : decode cX8_readNumber 144 = .ok (.lstore_n 2, 1) := by decide +kernel
theorem dX8_readNumber_145 : decode cX8_readNumber 145 = .ok (.iload 4, 2) := by decide +kernel
theorem dX8_readNumber_147 : decode cX8_readNumber 147 = .ok (.ifCond .eq 13, 3) := by decide +kernel
theorem dX8_readNumber_150 : decode cX8_readNumber 150 = .ok (.lload_n 2, 1) := by decide +kernel
theorem dX8_readNumber_151 : decode cX8_readNumber 151 = .ok (.lconst 0, 1) := by decide +kernel
theorem dX8_readNumber_152 : decode cX8_readNumber 152 = .ok (.lcmp, 1) := by decide +kernel
theorem dX8_readNumber_153 : decode cX8_readNumber 153 = .ok (.ifCond .lt 7, 3) := by decide +kernel
theorem dX8_readNumber_156 : decode cX8_readNumber 156 = .ok (.iconst 1, 1) := by decide +kernel
theorem dX8_readNumber_157 : decode cX8_readNumber 157 = .ok (.goto 4, 3) := by decide +kernel
theorem dX8_readNumber_160 : decode cX8_readNumber 160 = .ok (.iconst 0, 1) := by decide +kernel
theorem dX8_readNumber_161 : decode cX8_readNumber 161 = .ok (.istore 4, 2) := by decide +kernel
theorem dX8_readNumber_163 : decode cX8_readNumber 163 = .ok (.iload 4, 2) := by decide +kernel
theorem dX8_readNumber_165 : decode cX8_readNumber 165 = .ok (.ifCond .eq 22, 3) := by decide +kernel
theorem dX8_readNumber_168 : decode cX8_readNumber 168 = .ok (.aload_n 0, 1) := by decide +kernel
theorem dX8_readNumber_169 : decode cX8_readNumber 169 = .ok (.aload_n 0, 1) := by decide +kernel
theorem dX8_readNumber_170 : decode cX8_readNumber 170 = .ok (.getfield 103, 3) := by decide +kernel
theorem dX8_readNumber_173 : decode cX8_readNumber 173 = .ok (.invokevirtual 116, 3) := by decide +kernel
theorem dX8_readNumber_176 : decode cX8_readNumber 176 = .ok (.ifCond .ne 11, 3) := by decide +kernel
theorem dX8_readNumber_179 : decode cX8_readNumber 179 = .ok (.lload_n 2, 1) := by decide +kernel
theorem dX8_readNumber_180 : decode cX8_readNumber 180 = .ok (.ldc2_w 160, 3) := by decide +kernel
theorem dX8_readNumber_183 : decode cX8_readNumber 183 = .ok (.lcmp, 1) := by decide +kernel
theorem dX8_readNumber_184 : decode cX8_readNumber 184 = .ok (.ifCond .le 13, 3) := by decide +kernel
theorem dX8_readNumber_187 : decode cX8_readNumber 187 = .ok (.aload_n 0, 1) := by decide +kernel
theorem dX8_readNumber_188 : decode cX8_readNumber 188 = .ok (.iconst 4, 1) := by decide +kernel
theorem dX8_readNumber_189 : decode cX8_readNumber 189 = .ok (.aload_n 0, 1) := by decide +kernel
theorem dX8_readNumber_190 : decode cX8_readNumber 190 = .ok (.getfield 119, 3) := by decide +kernel
theorem dX8_readNumber_193 : decode cX8_readNumber 193 = .ok (.invokevirtual 106, 3) := by decide +kernel
theorem dX8_readNumber_196 : decode cX8_readNumber 196 = .ok (.return_, 1) := by decide +kernel
theorem dX8_readNumber_197 : decode cX8_readNumber 197 = .ok (.aload_n 0, 1) := by decide +kernel
theorem dX8_readNumber_198 : decode cX8_readNumber 198 = .ok (.bipush 81, 2) := by decide +kernel
theorem dX8_readNumber_200 : decode cX8_readNumber 200 = .ok (.putfield 126, 3) := by decide +kernel
theorem dX8_readNumber_203 : decode cX8_readNumber 203 = .ok (.aload_n 0, 1) := by decide +kernel
theorem dX8_readNumber_204 : decode cX8_readNumber 204 = .ok (.lload_n 2, 1) := by decide +kernel
theorem dX8_readNumber_205 : decode cX8_readNumber 205 = .ok (.l2i, 1) := by decide +kernel
theorem dX8_readNumber_206 : decode cX8_readNumber 206 = .ok (.putfield 132, 3) := by decide +kernel
theorem dX8_readNumber_209 : decode cX8_readNumber 209 = .ok (.return_, 1) := by decide +kernel

theorem dX8_readPlace_0 : decode cX8_readPlace 0 = .ok (.iconst (-1), 1) := by decide +kernel
theorem dX8_readPlace_1 : decode cX8_readPlace 1 = .ok (.istore_n 1, 1) := by decide +kernel
theorem dX8_readPlace_2 : decode cX8_readPlace 2 = .ok (.iconst 0, 1) := by decide +kernel
theorem dX8_readPlace_3 : decode cX8_readPlace 3 = .ok (.istore_n 2, 1) := by decide +kernel
theorem dX8_readPlace_4 : decode cX8_readPlace 4 = .ok (.iload_n 2, 1) := by decide +kernel
theorem dX8_readPlace_5 : decode cX8_readPlace 5 = .ok (.bipush 6, 2) := by decide +kernel
theorem dX8_readPlace_7 : decode cX8_readPlace 7 = .ok (.if_icmp .ge 65, 3) := by decide +kernel
theorem dX8_readPlace_10 : decode cX8_readPlace 10 = .ok (.aload_n 0, 1) := by decide +kernel
theorem dX8_readPlace_11 : decode cX8_readPlace 11 = .ok (.aload_n 0, 1) := by decide +kernel
theorem dX8_readPlace_12 : decode cX8_readPlace 12 = .ok (.getfield 119, 3) := by decide +kernel
theorem dX8_readPlace_15 : decode cX8_readPlace 15 = .ok (.iconst 1, 1) := by decide +kernel
theorem dX8_readPlace_16 : decode cX8_readPlace 16 = .ok (.iadd, 1) := by decide +kernel
theorem dX8_readPlace_17 : decode cX8_readPlace 17 = .ok (.invokevirtual 89, 3) := by decide +kernel
theorem dX8_readPlace_20 : decode cX8_readPlace 20 = .ok (.invokestatic 110, 3) := by decide +kernel
theorem dX8_readPlace_23 : decode cX8_readPlace 23 = .ok (.aload_n 0, 1) := by decide +kernel
theorem dX8_readPlace_24 : decode cX8_readPlace 24 = .ok (.getfield 19, 3) := by decide +kernel
theorem dX8_readPlace_27 : decode cX8_readPlace 27 = .ok (.iconst 2, 1) := by decide +kernel
theorem dX8_readPlace_28 : decode cX8_readPlace 28 = .ok (.iload_n 2, 1) := by decide +kernel
theorem dX8_readPlace_29 : decode cX8_readPlace 29 = .ok (.imul, 1) := by decide +kernel
theorem dX8_readPlace_30 : decode cX8_readPlace 30 = .ok (.iaload, 1) := by decide +kernel
theorem dX8_readPlace_31 : decode cX8_readPlace 31 = .ok (.if_icmp .ne 33, 3) := by decide +kernel
theorem dX8_readPlace_34 : decode cX8_readPlace 34 = .ok (.aload_n 0, 1) := by decide +kernel
theorem dX8_readPlace_35 : decode cX8_readPlace 35 = .ok (.aload_n 0, 1) := by decide +kernel
theorem dX8_readPlace_36 : decode cX8_readPlace 36 = .ok (.getfield 119, 3) := by decide +kernel
theorem dX8_readPlace_39 : decode cX8_readPlace 39 = .ok (.iconst 2, 1) := by decide +kernel
theorem dX8_readPlace_40 : decode cX8_readPlace 40 = .ok (.iadd, 1) := by decide +kernel
theorem dX8_readPlace_41 : decode cX8_readPlace 41 = .ok (.invokevirtual 89, 3) := by decide +kernel
theorem dX8_readPlace_44 : decode cX8_readPlace 44 = .ok (.invokestatic 110, 3) := by decide +kernel
theorem dX8_readPlace_47 : decode cX8_readPlace 47 = .ok (.aload_n 0, 1) := by decide +kernel
theorem dX8_readPlace_48 : decode cX8_readPlace 48 = .ok (.getfield 19, 3) := by decide +kernel
theorem dX8_readPlace_51 : decode cX8_readPlace 51 = .ok (.iconst 2, 1) := by decide +kernel
theorem dX8_readPlace_52 : decode cX8_readPlace 52 = .ok (.iload_n 2, 1) := by decide +kernel
theorem dX8_readPlace_53 : decode cX8_readPlace 53 = .ok (.imul, 1) := by decide +kernel
theorem dX8_readPlace_54 : decode cX8_readPlace 54 = .ok (.iconst 1, 1) := by decide +kernel
theorem dX8_readPlace_55 : decode cX8_readPlace 55 = .ok (.iadd, 1) := by decide +kernel
theorem dX8_readPlace_56 : decode cX8_readPlace 56 = .ok (.iaload, 1) := by decide +kernel
theorem dX8_readPlace_57 : decode cX8_readPlace 57 = .ok (.if_icmp .ne 7, 3) := by decide +kernel
theorem dX8_readPlace_60 : decode cX8_readPlace 60 = .ok (.iload_n 2, 1) := by decide +kernel
theorem dX8_readPlace_61 : decode cX8_readPlace 61 = .ok (.goto 4, 3) := by decide +kernel
theorem dX8_readPlace_64 : decode cX8_readPlace 64 = .ok (.iload_n 1, 1) := by decide +kernel
theorem dX8_readPlace_65 : decode cX8_readPlace 65 = .ok (.istore_n 1, 1) := by decide +kernel
theorem dX8_readPlace_66 : decode cX8_readPlace 66 = .ok (.iinc 2 1, 3) := by decide +kernel
theorem dX8_readPlace_69 : decode cX8_readPlace 69 = .ok (.goto (-65), 3) := by decide +kernel
theorem dX8_readPlace_72 : decode cX8_readPlace 72 = .ok (.aload_n 0, 1) := by decide +kernel
theorem dX8_readPlace_73 : decode cX8_readPlace 73 = .ok (.aload_n 0, 1) := by decide +kernel
theorem dX8_readPlace_74 : decode cX8_readPlace 74 = .ok (.getfield 119, 3) := by decide +kernel
theorem dX8_readPlace_77 : decode cX8_readPlace 77 = .ok (.iconst 3, 1) := by decide +kernel
theorem dX8_readPlace_78 : decode cX8_readPlace 78 = .ok (.iadd, 1) := by decide +kernel
theorem dX8_readPlace_79 : decode cX8_readPlace 79 = .ok (.putfield 103, 3) := by decide +kernel
theorem dX8_readPlace_82 : decode cX8_readPlace 82 = .ok (.iload_n 1, 1) := by decide +kernel
theorem dX8_readPlace_83 : decode cX8_readPlace 83 = .ok (.ifCond .lt 12, 3) := by decide +kernel
theorem dX8_readPlace_86 : decode cX8_readPlace 86 = .ok (.aload_n 0, 1) := by decide +kernel
theorem dX8_readPlace_87 : decode cX8_readPlace 87 = .ok (.bipush 10, 2) := by decide +kernel
theorem dX8_readPlace_89 : decode cX8_readPlace 89 = .ok (.invokevirtual 148, 3) := by decide +kernel
theorem dX8_readPlace_92 : decode cX8_readPlace 92 = .ok (.goto 6, 3) := by decide +kernel
theorem dX8_readPlace_95 : decode cX8_readPlace 95 = .ok (.ldc2_w 140, 3) := by decide +kernel
theorem dX8_readPlace_98 : decode cX8_readPlace 98 = .ok (.lstore_n 2, 1) := by decide +kernel
theorem dX8_readPlace_99 : decode cX8_readPlace 99 = .ok (.lload_n 2, 1) := by decide +kernel
theorem dX8_readPlace_100 : decode cX8_readPlace 100 = .ok (.lconst 0, 1) := by decide +kernel
theorem dX8_readPlace_101 : decode cX8_readPlace 101 = .ok (.lcmp, 1) := by decide +kernel
theorem dX8_readPlace_102 : decode cX8_readPlace 102 = .ok (.ifCond .lt 33, 3) := by decide +kernel
theorem dX8_readPlace_105 : decode cX8_readPlace 105 = .ok (.lload_n 2, 1) := by decide +kernel
theorem dX8_readPlace_106 : decode cX8_readPlace 106 = .ok (.iload_n 1, 1) := by decide +kernel
theorem dX8_readPlace_107 : decode cX8_readPlace 107 = .ok (.iconst 3, 1) := by decide +kernel
theorem dX8_readPlace_108 : decode cX8_readPlace 108 = .ok (.if_icmp .ge 9, 3) := by decide +kernel
theorem dX8_readPlace_111 : decode cX8_readPlace 111 = .ok (.ldc2_w 162, 3) := by decide +kernel
theorem dX8_readPlace_114 : decode cX8_readPlace 114 = .ok (.goto 6, 3) := by decide +kernel
theorem dX8_readPlace_117 : decode cX8_readPlace 117 = .ok (.ldc2_w 164, 3) := by decide +kernel
theorem dX8_readPlace_120 : decode cX8_readPlace 120 = .ok (.lcmp, 1) := by decide +kernel
theorem dX8_readPlace_121 : decode cX8_readPlace 121 = .ok (.ifCond .gt 14, 3) := by decide +kernel
theorem dX8_readPlace_124 : decode cX8_readPlace 124 = .ok (.aload_n 0, 1) := by decide +kernel
theorem dX8_readPlace_125 : decode cX8_readPlace 125 = .ok (.aload_n 0, 1) := by decide +kernel
theorem dX8_readPlace_126 : decode cX8_readPlace 126 = .ok (.getfield 103, 3) := by decide +kernel
theorem dX8_readPlace_129 : decode cX8_readPlace 129 = .ok (.invokevirtual 116, 3) := by decide +kernel
theorem dX8_readPlace_132 : decode cX8_readPlace 132 = .ok (.ifCond .eq 13, 3) := by decide +kernel
theorem dX8_readPlace_135 : decode cX8_readPlace 135 = .ok (.aload_n 0, 1) := by decide +kernel
theorem dX8_readPlace_136 : decode cX8_readPlace 136 = .ok (.iconst 5, 1) := by decide +kernel
theorem dX8_readPlace_137 : decode cX8_readPlace 137 = .ok (.aload_n 0, 1) := by decide +kernel
theorem dX8_readPlace_138 : decode cX8_readPlace 138 = .ok (.getfield 119, 3) := by decide +kernel
theorem dX8_readPlace_141 : decode cX8_readPlace 141 = .ok (.invokevirtual 106, 3) := by decide +kernel
theorem dX8_readPlace_144 : decode cX8_readPlace 144 = .ok (.return_, 1) := by decide +kernel
theorem dX8_readPlace_145 : decode cX8_readPlace 145 = .ok (.aload_n 0, 1) := by decide +kernel
theorem dX8_readPlace_146 : decode cX8_readPlace 146 = .ok (.bipush 82, 2) := by decide +kernel
theorem dX8_readPlace_148 : decode cX8_readPlace 148 = .ok (.putfield 126, 3) := by decide +kernel
theorem dX8_readPlace_151 : decode cX8_readPlace 151 = .ok (.aload_n 0, 1) := by decide +kernel
theorem dX8_readPlace_152 : decode cX8_readPlace 152 = .ok (.sipush 256, 3) := by decide +kernel
theorem dX8_readPlace_155 : decode cX8_readPlace 155 = .ok (.iload_n 1, 1) := by decide +kernel
theorem dX8_readPlace_156 : decode cX8_readPlace 156 = .ok (.imul, 1) := by decide +kernel
theorem dX8_readPlace_157 : decode cX8_readPlace 157 = .ok (.lload_n 2, 1) := by decide +kernel
theorem dX8_readPlace_158 : decode cX8_readPlace 158 = .ok (.l2i, 1) := by decide +kernel
theorem dX8_readPlace_159 : decode cX8_readPlace 159 = .ok (.iadd, 1) := by decide +kernel
theorem dX8_readPlace_160 : decode cX8_readPlace 160 = .ok (.putfield 132, 3) := by decide +kernel
theorem dX8_readPlace_163 : decode cX8_readPlace 163 = .ok (.return_, 1) := by decide +kernel

theorem dX8_readSign_0 : decode cX8_readSign 0 = .ok (.aload_n 0, 1) := by decide +kernel
theorem dX8_readSign_1 : decode cX8_readSign 1 = .ok (.aload_n 0, 1) := by decide +kernel
theorem dX8_readSign_2 : decode cX8_readSign 2 = .ok (.getfield 119, 3) := by decide +kernel
theorem dX8_readSign_5 : decode cX8_readSign 5 = .ok (.invokevirtual 89, 3) := by decide +kernel
theorem dX8_readSign_8 : decode cX8_readSign 8 = .ok (.istore_n 1, 1) := by decide +kernel
theorem dX8_readSign_9 : decode cX8_readSign 9 = .ok (.iconst (-1), 1) := by decide +kernel
theorem dX8_readSign_10 : decode cX8_readSign 10 = .ok (.istore_n 2, 1) := by decide +kernel
theorem dX8_readSign_11 : decode cX8_readSign 11 = .ok (.bipush 21, 2) := by decide +kernel
theorem dX8_readSign_13 : decode cX8_readSign 13 = .ok (.istore_n 3, 1) := by decide +kernel
theorem dX8_readSign_14 : decode cX8_readSign 14 = .ok (.iload_n 3, 1) := by decide +kernel
theorem dX8_readSign_15 : decode cX8_readSign 15 = .ok (.ifCond .lt 75, 3) := by decide +kernel
theorem dX8_readSign_18 : decode cX8_readSign 18 = .ok (.aload_n 0, 1) := by decide +kernel
theorem dX8_readSign_19 : decode cX8_readSign 19 = .ok (.getfield 16, 3) := by decide +kernel
theorem dX8_readSign_22 : decode cX8_readSign 22 = .ok (.iconst 2, 1) := by decide +kernel
theorem dX8_readSign_23 : decode cX8_readSign 23 = .ok (.iload_n 3, 1) := by decide +kernel
theorem dX8_readSign_24 : decode cX8_readSign 24 = .ok (.imul, 1) := by decide +kernel
theorem dX8_readSign_25 : decode cX8_readSign 25 = .ok (.iconst 1, 1) := by decide +kernel
theorem dX8_readSign_26 : decode cX8_readSign 26 = .ok (.iadd, 1) := by decide +kernel
theorem dX8_readSign_27 : decode cX8_readSign 27 = .ok (.iaload, 1) := by decide +kernel
theorem dX8_readSign_28 : decode cX8_readSign 28 = .ok (.ifCond .eq 7, 3) := by decide +kernel
theorem dX8_readSign_31 : decode cX8_readSign 31 = .ok (.iconst 1, 1) := by decide +kernel
theorem dX8_readSign_32 : decode cX8_readSign 32 = .ok (.goto 4, 3) := by decide +kernel
theorem dX8_readSign_35 : decode cX8_readSign 35 = .ok (.iconst 0, 1) := by decide +kernel
theorem dX8_readSign_36 : decode cX8_readSign 36 = .ok (.istore 4, 2) := by decide +kernel
theorem dX8_readSign_38 : decode cX8_readSign 38 = .ok (.aload_n 0, 1) := by decide +kernel
theorem dX8_readSign_39 : decode cX8_readSign 39 = .ok (.getfield 16, 3) := by decide +kernel
theorem dX8_readSign_42 : decode cX8_readSign 42 = .ok (.iconst 2, 1) := by decide +kernel
theorem dX8_readSign_43 : decode cX8_readSign 43 = .ok (.iload_n 3, 1) := by decide +kernel
theorem dX8_readSign_44 : decode cX8_readSign 44 = .ok (.imul, 1) := by decide +kernel
theorem dX8_readSign_45 : decode cX8_readSign 45 = .ok (.iaload, 1) := by decide +kernel
theorem dX8_readSign_46 : decode cX8_readSign 46 = .ok (.iload_n 1, 1) := by decide +kernel
theorem dX8_readSign_47 : decode cX8_readSign 47 = .ok (.if_icmp .ne 35, 3) := by decide +kernel
theorem dX8_readSign_50 : decode cX8_readSign 50 = .ok (.iload 4, 2) := by decide +kernel
theorem dX8_readSign_52 : decode cX8_readSign 52 = .ok (.ifCond .eq 26, 3) := by decide +kernel
theorem dX8_readSign_55 : decode cX8_readSign 55 = .ok (.aload_n 0, 1) := by decide +kernel
theorem dX8_readSign_56 : decode cX8_readSign 56 = .ok (.getfield 16, 3) := by decide +kernel
theorem dX8_readSign_59 : decode cX8_readSign 59 = .ok (.iconst 2, 1) := by decide +kernel
theorem dX8_readSign_60 : decode cX8_readSign 60 = .ok (.iload_n 3, 1) := by decide +kernel
theorem dX8_readSign_61 : decode cX8_readSign 61 = .ok (.imul, 1) := by decide +kernel
theorem dX8_readSign_62 : decode cX8_readSign 62 = .ok (.iconst 1, 1) := by decide +kernel
theorem dX8_readSign_63 : decode cX8_readSign 63 = .ok (.iadd, 1) := by decide +kernel
theorem dX8_readSign_64 : decode cX8_readSign 64 = .ok (.iaload, 1) := by decide +kernel
theorem dX8_readSign_65 : decode cX8_readSign 65 = .ok (.aload_n 0, 1) := by decide +kernel
theorem dX8_readSign_66 : decode cX8_readSign 66 = .ok (.aload_n 0, 1) := by decide +kernel
theorem dX8_readSign_67 : decode cX8_readSign 67 = .ok (.getfield 119, 3) := by decide +kernel
theorem dX8_readSign_70 : decode cX8_readSign 70 = .ok (.iconst 1, 1) := by decide +kernel
theorem dX8_readSign_71 : decode cX8_readSign 71 = .ok (.iadd, 1) := by decide +kernel
theorem dX8_readSign_72 : decode cX8_readSign 72 = .ok (.invokevirtual 89, 3) := by decide +kernel
theorem dX8_readSign_75 : decode cX8_readSign 75 = .ok (.if_icmp .ne 7, 3) := by decide +kernel
theorem dX8_readSign_78 : decode cX8_readSign 78 = .ok (.iload_n 3, 1) := by decide +kernel
theorem dX8_readSign_79 : decode cX8_readSign 79 = .ok (.goto 4, 3) := by decide +kernel
theorem dX8_readSign_82 : decode cX8_readSign 82 = .ok (.iload_n 2, 1) := by decide +kernel
theorem dX8_readSign_83 : decode cX8_readSign 83 = .ok (.istore_n 2, 1) := by decide +kernel
theorem dX8_readSign_84 : decode cX8_readSign 84 = .ok (.iinc 3 (-1), 3) := by decide +kernel
theorem dX8_readSign_87 : decode cX8_readSign 87 = .ok (.goto (-73), 3) := by decide +kernel
theorem dX8_readSign_90 : decode cX8_readSign 90 = .ok (.iload_n 2, 1) := by decide +kernel
theorem dX8_readSign_91 : decode cX8_readSign 91 = .ok (.ifCond .ge 13, 3) := by decide +kernel
theorem dX8_readSign_94 : decode cX8_readSign 94 = .ok (.aload_n 0, 1) := by decide +kernel
theorem dX8_readSign_95 : decode cX8_readSign 95 = .ok (.iconst 1, 1) := by decide +kernel
theorem dX8_readSign_96 : decode cX8_readSign 96 = .ok (.aload_n 0, 1) := by decide +kernel
theorem dX8_readSign_97 : decode cX8_readSign 97 = .ok (.getfield 119, 3) := by decide +kernel
theorem dX8_readSign_100 : decode cX8_readSign 100 = .ok (.invokevirtual 106, 3) := by decide +kernel
theorem dX8_readSign_103 : decode cX8_readSign 103 = .ok (.return_, 1) := by decide +kernel
theorem dX8_readSign_104 : decode cX8_readSign 104 = .ok (.aload_n 0, 1) := by decide +kernel
theorem dX8_readSign_105 : decode cX8_readSign 105 = .ok (.bipush 50, 2) := by decide +kernel
theorem dX8_readSign_107 : decode cX8_readSign 107 = .ok (.iload_n 2, 1) := by decide +kernel
theorem dX8_readSign_108 : decode cX8_readSign 108 = .ok (.iadd, 1) := by decide +kernel
theorem dX8_readSign_109 : decode cX8_readSign 109 = .ok (.putfield 126, 3) := by decide +kernel
theorem dX8_readSign_112 : decode cX8_readSign 112 = .ok (.aload_n 0, 1) := by decide +kernel
theorem dX8_readSign_113 : decode cX8_readSign 113 = .ok (.aload_n 0, 1) := by decide +kernel
theorem dX8_readSign_114 : decode cX8_readSign 114 = .ok (.getfield 119, 3) := by decide +kernel
theorem dX8_readSign_117 : decode cX8_readSign 117 = .ok (.aload_n 0, 1) := by decide +kernel
theorem dX8_readSign_118 : decode cX8_readSign 118 = .ok (.getfield 16, 3) := by decide +kernel
theorem dX8_readSign_121 : decode cX8_readSign 121 = .ok (.iconst 2, 1) := by decide +kernel
theorem dX8_readSign_122 : decode cX8_readSign 122 = .ok (.iload_n 2, 1) := by decide +kernel
theorem dX8_readSign_123 : decode cX8_readSign 123 = .ok (.imul, 1) := by decide +kernel
theorem dX8_readSign_124 : decode cX8_readSign 124 = .ok (.iconst 1, 1) := by decide +kernel
theorem dX8_readSign_125 : decode cX8_readSign 125 = .ok (.iadd, 1) := by decide +kernel
theorem dX8_readSign_126 : decode cX8_readSign 126 = .ok (.iaload, 1) := by decide +kernel
theorem dX8_readSign_127 : decode cX8_readSign 127 = .ok (.ifCond .eq 7, 3) := by decide +kernel
theorem dX8_readSign_130 : decode cX8_readSign 130 = .ok (.iconst 2, 1) := by decide +kernel
theorem dX8_readSign_131 : decode cX8_readSign 131 = .ok (.goto 4, 3) := by decide +kernel
theorem dX8_readSign_134 : decode cX8_readSign 134 = .ok (.iconst 1, 1) := by decide +kernel
theorem dX8_readSign_135 : decode cX8_readSign 135 = .ok (.iadd, 1) := by decide +kernel
theorem dX8_readSign_136 : decode cX8_readSign 136 = .ok (.putfield 103, 3) := by decide +kernel
theorem dX8_readSign_139 : decode cX8_readSign 139 = .ok (.return_, 1) := by decide +kernel
