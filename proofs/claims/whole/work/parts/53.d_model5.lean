theorem dX8_signRest_0 : decode cX8_signRest 0 = .ok (.aload_n 0, 1) := by decide +kernel
theorem dX8_signRest_1 : decode cX8_signRest 1 = .ok (.invokevirtual 305, 3) := by decide +kernel
theorem dX8_signRest_4 : decode cX8_signRest 4 = .ok (.istore_n 1, 1) := by decide +kernel
theorem dX8_signRest_5 : decode cX8_signRest 5 = .ok (.iload_n 1, 1) := by decide +kernel
theorem dX8_signRest_6 : decode cX8_signRest 6 = .ok (.ifCond .lt 86, 3) := by decide +kernel
theorem dX8_signRest_9 : decode cX8_signRest 9 = .ok (.aload_n 0, 1) := by decide +kernel
theorem dX8_signRest_10 : decode cX8_signRest 10 = .ok (.invokevirtual 250, 3) := by decide +kernel
theorem dX8_signRest_13 : decode cX8_signRest 13 = .ok (.ifCond .eq 78, 3) := by decide +kernel
theorem dX8_signRest_16 : decode cX8_signRest 16 = .ok (.aload_n 0, 1) := by decide +kernel
theorem dX8_signRest_17 : decode cX8_signRest 17 = .ok (.dup, 1) := by decide +kernel
theorem dX8_signRest_18 : decode cX8_signRest 18 = .ok (.getfield 308, 3) := by decide +kernel
theorem dX8_signRest_21 : decode cX8_signRest 21 = .ok (.iconst 1, 1) := by decide +kernel
theorem dX8_signRest_22 : decode cX8_signRest 22 = .ok (.iadd, 1) := by decide +kernel
theorem dX8_signRest_23 : decode cX8_signRest 23 = .ok (.putfield 308, 3) := by decide +kernel
theorem dX8_signRest_26 : decode cX8_signRest 26 = .ok (.aload_n 0, 1) := by decide +kernel
theorem dX8_signRest_27 : decode cX8_signRest 27 = .ok (.getfield 62, 3) := by decide +kernel
theorem dX8_signRest_30 : decode cX8_signRest 30 = .ok (.aload_n 0, 1) := by decide +kernel
theorem dX8_signRest_31 : decode cX8_signRest 31 = .ok (.getfield 271, 3) := by decide +kernel
theorem dX8_signRest_34 : decode cX8_signRest 34 = .ok (.iconst 1, 1) := by decide +kernel
theorem dX8_signRest_35 : decode cX8_signRest 35 = .ok (.isub, 1) := by decide +kernel
theorem dX8_signRest_36 : decode cX8_signRest 36 = .ok (.iaload, 1) := by decide +kernel
theorem dX8_signRest_37 : decode cX8_signRest 37 = .ok (.ifCond .lt 31, 3) := by decide +kernel
theorem dX8_signRest_40 : decode cX8_signRest 40 = .ok (.aload_n 0, 1) := by decide +kernel
theorem dX8_signRest_41 : decode cX8_signRest 41 = .ok (.getfield 62, 3) := by decide +kernel
theorem dX8_signRest_44 : decode cX8_signRest 44 = .ok (.aload_n 0, 1) := by decide +kernel
theorem dX8_signRest_45 : decode cX8_signRest 45 = .ok (.getfield 271, 3) := by decide +kernel
theorem dX8_signRest_48 : decode cX8_signRest 48 = .ok (.iconst 1, 1) := by decide +kernel
theorem dX8_signRest_49 : decode cX8_signRest 49 = .ok (.isub, 1) := by decide +kernel
theorem dX8_signRest_50 : decode cX8_signRest 50 = .ok (.iaload, 1) := by decide +kernel
theorem dX8_signRest_51 : decode cX8_signRest 51 = .ok (.invokestatic 311, 3) := by decide +kernel
theorem dX8_signRest_54 : decode cX8_signRest 54 = .ok (.iload_n 1, 1) := by decide +kernel
theorem dX8_signRest_55 : decode cX8_signRest 55 = .ok (.invokestatic 311, 3) := by decide +kernel
theorem dX8_signRest_58 : decode cX8_signRest 58 = .ok (.if_icmp .lt 10, 3) := by decide +kernel
theorem dX8_signRest_61 : decode cX8_signRest 61 = .ok (.aload_n 0, 1) := by decide +kernel
theorem dX8_signRest_62 : decode cX8_signRest 62 = .ok (.invokevirtual 287, 3) := by decide +kernel
theorem dX8_signRest_65 : decode cX8_signRest 65 = .ok (.goto (-39), 3) := by decide +kernel
theorem dX8_signRest_68 : decode cX8_signRest 68 = .ok (.aload_n 0, 1) := by decide +kernel
theorem dX8_signRest_69 : decode cX8_signRest 69 = .ok (.iload_n 1, 1) := by decide +kernel
theorem dX8_signRest_70 : decode cX8_signRest 70 = .ok (.aload_n 0, 1) := by decide +kernel
theorem dX8_signRest_71 : decode cX8_signRest 71 = .ok (.getfield 119, 3) := by decide +kernel
theorem dX8_signRest_74 : decode cX8_signRest 74 = .ok (.invokevirtual 277, 3) := by decide +kernel
theorem dX8_signRest_77 : decode cX8_signRest 77 = .ok (.aload_n 0, 1) := by decide +kernel
theorem dX8_signRest_78 : decode cX8_signRest 78 = .ok (.sipush 136, 3) := by decide +kernel
theorem dX8_signRest_81 : decode cX8_signRest 81 = .ok (.sipush 135, 3) := by decide +kernel
theorem dX8_signRest_84 : decode cX8_signRest 84 = .ok (.invokevirtual 205, 3) := by decide +kernel
theorem dX8_signRest_87 : decode cX8_signRest 87 = .ok (.aload_n 0, 1) := by decide +kernel
theorem dX8_signRest_88 : decode cX8_signRest 88 = .ok (.invokevirtual 208, 3) := by decide +kernel
theorem dX8_signRest_91 : decode cX8_signRest 91 = .ok (.return_, 1) := by decide +kernel
theorem dX8_signRest_92 : decode cX8_signRest 92 = .ok (.aload_n 0, 1) := by decide +kernel
theorem dX8_signRest_93 : decode cX8_signRest 93 = .ok (.getfield 62, 3) := by decide +kernel
theorem dX8_signRest_96 : decode cX8_signRest 96 = .ok (.aload_n 0, 1) := by decide +kernel
theorem dX8_signRest_97 : decode cX8_signRest 97 = .ok (.getfield 271, 3) := by decide +kernel
theorem dX8_signRest_100 : decode cX8_signRest 100 = .ok (.iconst 1, 1) := by decide +kernel
theorem dX8_signRest_101 : decode cX8_signRest 101 = .ok (.isub, 1) := by decide +kernel
theorem dX8_signRest_102 : decode cX8_signRest 102 = .ok (.iaload, 1) := by decide +kernel
theorem dX8_signRest_103 : decode cX8_signRest 103 = .ok (.ifCond .lt 10, 3) := by decide +kernel
theorem dX8_signRest_106 : decode cX8_signRest 106 = .ok (.aload_n 0, 1) := by decide +kernel
theorem dX8_signRest_107 : decode cX8_signRest 107 = .ok (.invokevirtual 287, 3) := by decide +kernel
theorem dX8_signRest_110 : decode cX8_signRest 110 = .ok (.goto (-18), 3) := by decide +kernel
theorem dX8_signRest_113 : decode cX8_signRest 113 = .ok (.aload_n 0, 1) := by decide +kernel
theorem dX8_signRest_114 : decode cX8_signRest 114 = .ok (.dup, 1) := by decide +kernel
theorem dX8_signRest_115 : decode cX8_signRest 115 = .ok (.getfield 271, 3) := by decide +kernel
theorem dX8_signRest_118 : decode cX8_signRest 118 = .ok (.iconst 1, 1) := by decide +kernel
theorem dX8_signRest_119 : decode cX8_signRest 119 = .ok (.isub, 1) := by decide +kernel
theorem dX8_signRest_120 : decode cX8_signRest 120 = .ok (.putfield 271, 3) := by decide +kernel
theorem dX8_signRest_123 : decode cX8_signRest 123 = .ok (.aload_n 0, 1) := by decide +kernel
theorem dX8_signRest_124 : decode cX8_signRest 124 = .ok (.dup, 1) := by decide +kernel
theorem dX8_signRest_125 : decode cX8_signRest 125 = .ok (.getfield 274, 3) := by decide +kernel
theorem dX8_signRest_128 : decode cX8_signRest 128 = .ok (.iconst 1, 1) := by decide +kernel
theorem dX8_signRest_129 : decode cX8_signRest 129 = .ok (.isub, 1) := by decide +kernel
theorem dX8_signRest_130 : decode cX8_signRest 130 = .ok (.putfield 274, 3) := by decide +kernel
theorem dX8_signRest_133 : decode cX8_signRest 133 = .ok (.aload_n 0, 1) := by decide +kernel
theorem dX8_signRest_134 : decode cX8_signRest 134 = .ok (.getfield 274, 3) := by decide +kernel
theorem dX8_signRest_137 : decode cX8_signRest 137 = .ok (.ifCond .ne 21, 3) := by decide +kernel
theorem dX8_signRest_140 : decode cX8_signRest 140 = .ok (.aload_n 0, 1) := by decide +kernel
theorem dX8_signRest_141 : decode cX8_signRest 141 = .ok (.dup, 1) := by decide +kernel
theorem dX8_signRest_142 : decode cX8_signRest 142 = .ok (.getfield 214, 3) := by decide +kernel
theorem dX8_signRest_145 : decode cX8_signRest 145 = .ok (.aload_n 0, 1) := by decide +kernel
theorem dX8_signRest_146 : decode cX8_signRest 146 = .ok (.getfield 308, 3) := by decide +kernel
theorem dX8_signRest_149 : decode cX8_signRest 149 = .ok (.isub, 1) := by decide +kernel
theorem dX8_signRest_150 : decode cX8_signRest 150 = .ok (.putfield 214, 3) := by decide +kernel
theorem dX8_signRest_153 : decode cX8_signRest 153 = .ok (.aload_n 0, 1) := by decide +kernel
theorem dX8_signRest_154 : decode cX8_signRest 154 = .ok (.iconst 0, 1) := by decide +kernel
theorem dX8_signRest_155 : decode cX8_signRest 155 = .ok (.putfield 308, 3) := by decide +kernel
theorem dX8_signRest_158 : decode cX8_signRest 158 = .ok (.return_, 1) := by decide +kernel

theorem dX8_cell_0 : decode cX8_cell 0 = .ok (.aload_n 0, 1) := by decide +kernel
theorem dX8_cell_1 : decode cX8_cell 1 = .ok (.getfield 126, 3) := by decide +kernel
theorem dX8_cell_4 : decode cX8_cell 4 = .ok (.bipush 66, 2) := by decide +kernel
theorem dX8_cell_6 : decode cX8_cell 6 = .ok (.if_icmp .ne 7, 3) := by decide +kernel
theorem dX8_cell_9 : decode cX8_cell 9 = .ok (.iconst 1, 1) := by decide +kernel
theorem dX8_cell_10 : decode cX8_cell 10 = .ok (.goto 30, 3) := by decide +kernel
theorem dX8_cell_13 : decode cX8_cell 13 = .ok (.aload_n 0, 1) := by decide +kernel
theorem dX8_cell_14 : decode cX8_cell 14 = .ok (.getfield 126, 3) := by decide +kernel
theorem dX8_cell_17 : decode cX8_cell 17 = .ok (.bipush 69, 2) := by decide +kernel
theorem dX8_cell_19 : decode cX8_cell 19 = .ok (.if_icmp .ne 7, 3) := by decide +kernel
theorem dX8_cell_22 : decode cX8_cell 22 = .ok (.iconst 2, 1) := by decide +kernel
theorem dX8_cell_23 : decode cX8_cell 23 = .ok (.goto 17, 3) := by decide +kernel
theorem dX8_cell_26 : decode cX8_cell 26 = .ok (.aload_n 0, 1) := by decide +kernel
theorem dX8_cell_27 : decode cX8_cell 27 = .ok (.getfield 126, 3) := by decide +kernel
theorem dX8_cell_30 : decode cX8_cell 30 = .ok (.bipush 68, 2) := by decide +kernel
theorem dX8_cell_32 : decode cX8_cell 32 = .ok (.if_icmp .ne 7, 3) := by decide +kernel
theorem dX8_cell_35 : decode cX8_cell 35 = .ok (.iconst 3, 1) := by decide +kernel
theorem dX8_cell_36 : decode cX8_cell 36 = .ok (.goto 4, 3) := by decide +kernel
theorem dX8_cell_39 : decode cX8_cell 39 = .ok (.iconst 0, 1) := by decide +kernel
theorem dX8_cell_40 : decode cX8_cell 40 = .ok (.istore_n 1, 1) := by decide +kernel
theorem dX8_cell_41 : decode cX8_cell 41 = .ok (.iload_n 1, 1) := by decide +kernel
theorem dX8_cell_42 : decode cX8_cell 42 = .ok (.ifCond .gt 12, 3) := by decide +kernel
theorem dX8_cell_45 : decode cX8_cell 45 = .ok (.aload_n 0, 1) := by decide +kernel
theorem dX8_cell_46 : decode cX8_cell 46 = .ok (.getfield 126, 3) := by decide +kernel
theorem dX8_cell_49 : decode cX8_cell 49 = .ok (.bipush 80, 2) := by decide +kernel
theorem dX8_cell_51 : decode cX8_cell 51 = .ok (.if_icmp .ne 34, 3) := by decide +kernel
theorem dX8_cell_54 : decode cX8_cell 54 = .ok (.aload_n 0, 1) := by decide +kernel
theorem dX8_cell_55 : decode cX8_cell 55 = .ok (.bipush 25, 2) := by decide +kernel
theorem dX8_cell_57 : decode cX8_cell 57 = .ok (.aload_n 0, 1) := by decide +kernel
theorem dX8_cell_58 : decode cX8_cell 58 = .ok (.getfield 119, 3) := by decide +kernel
theorem dX8_cell_61 : decode cX8_cell 61 = .ok (.iload_n 1, 1) := by decide +kernel
theorem dX8_cell_62 : decode cX8_cell 62 = .ok (.invokevirtual 227, 3) := by decide +kernel
theorem dX8_cell_65 : decode cX8_cell 65 = .ok (.aload_n 0, 1) := by decide +kernel
theorem dX8_cell_66 : decode cX8_cell 66 = .ok (.bipush 101, 2) := by decide +kernel
theorem dX8_cell_68 : decode cX8_cell 68 = .ok (.sipush 155, 3) := by decide +kernel
theorem dX8_cell_71 : decode cX8_cell 71 = .ok (.invokevirtual 205, 3) := by decide +kernel
theorem dX8_cell_74 : decode cX8_cell 74 = .ok (.iload_n 1, 1) := by decide +kernel
theorem dX8_cell_75 : decode cX8_cell 75 = .ok (.ifCond .le 105, 3) := by decide +kernel
theorem dX8_cell_78 : decode cX8_cell 78 = .ok (.aload_n 0, 1) := by decide +kernel
theorem dX8_cell_79 : decode cX8_cell 79 = .ok (.invokevirtual 208, 3) := by decide +kernel
theorem dX8_cell_82 : decode cX8_cell 82 = .ok (.goto 98, 3) := by decide +kernel
theorem dX8_cell_85 : decode cX8_cell 85 = .ok (.aload_n 0, 1) := by decide +kernel
theorem dX8_cell_86 : decode cX8_cell 86 = .ok (.getfield 126, 3) := by decide +kernel
theorem dX8_cell_89 : decode cX8_cell 89 = .ok (.bipush 64, 2) := by decide +kernel
theorem dX8_cell_91 : decode cX8_cell 91 = .ok (.if_icmp .eq 12, 3) := by decide +kernel
theorem dX8_cell_94 : decode cX8_cell 94 = .ok (.aload_n 0, 1) := by decide +kernel
theorem dX8_cell_95 : decode cX8_cell 95 = .ok (.getfield 126, 3) := by decide +kernel
theorem dX8_cell_98 : decode cX8_cell 98 = .ok (.bipush 65, 2) := by decide +kernel
theorem dX8_cell_100 : decode cX8_cell 100 = .ok (.if_icmp .ne 35, 3) := by decide +kernel
theorem dX8_cell_103 : decode cX8_cell 103 = .ok (.aload_n 0, 1) := by decide +kernel
theorem dX8_cell_104 : decode cX8_cell 104 = .ok (.aload_n 0, 1) := by decide +kernel
theorem dX8_cell_105 : decode cX8_cell 105 = .ok (.getfield 126, 3) := by decide +kernel
theorem dX8_cell_108 : decode cX8_cell 108 = .ok (.bipush 64, 2) := by decide +kernel
theorem dX8_cell_110 : decode cX8_cell 110 = .ok (.if_icmp .ne 8, 3) := by decide +kernel
theorem dX8_cell_113 : decode cX8_cell 113 = .ok (.bipush 26, 2) := by decide +kernel
theorem dX8_cell_115 : decode cX8_cell 115 = .ok (.goto 5, 3) := by decide +kernel
theorem dX8_cell_118 : decode cX8_cell 118 = .ok (.bipush 27, 2) := by decide +kernel
theorem dX8_cell_120 : decode cX8_cell 120 = .ok (.aload_n 0, 1) := by decide +kernel
theorem dX8_cell_121 : decode cX8_cell 121 = .ok (.getfield 119, 3) := by decide +kernel
theorem dX8_cell_124 : decode cX8_cell 124 = .ok (.iconst 0, 1) := by decide +kernel
theorem dX8_cell_125 : decode cX8_cell 125 = .ok (.invokevirtual 238, 3) := by decide +kernel
theorem dX8_cell_128 : decode cX8_cell 128 = .ok (.aload_n 0, 1) := by decide +kernel
theorem dX8_cell_129 : decode cX8_cell 129 = .ok (.invokevirtual 208, 3) := by decide +kernel
theorem dX8_cell_132 : decode cX8_cell 132 = .ok (.goto 48, 3) := by decide +kernel
theorem dX8_cell_135 : decode cX8_cell 135 = .ok (.aload_n 0, 1) := by decide +kernel
theorem dX8_cell_136 : decode cX8_cell 136 = .ok (.getfield 126, 3) := by decide +kernel
theorem dX8_cell_139 : decode cX8_cell 139 = .ok (.bipush 55, 2) := by decide +kernel
theorem dX8_cell_141 : decode cX8_cell 141 = .ok (.if_icmp .ne 35, 3) := by decide +kernel
theorem dX8_cell_144 : decode cX8_cell 144 = .ok (.aload_n 0, 1) := by decide +kernel
theorem dX8_cell_145 : decode cX8_cell 145 = .ok (.bipush 28, 2) := by decide +kernel
theorem dX8_cell_147 : decode cX8_cell 147 = .ok (.aload_n 0, 1) := by decide +kernel
theorem dX8_cell_148 : decode cX8_cell 148 = .ok (.getfield 119, 3) := by decide +kernel
theorem dX8_cell_151 : decode cX8_cell 151 = .ok (.iconst 0, 1) := by decide +kernel
theorem dX8_cell_152 : decode cX8_cell 152 = .ok (.invokevirtual 227, 3) := by decide +kernel
theorem dX8_cell_155 : decode cX8_cell 155 = .ok (.aload_n 0, 1) := by decide +kernel
theorem dX8_cell_156 : decode cX8_cell 156 = .ok (.bipush 101, 2) := by decide +kernel
theorem dX8_cell_158 : decode cX8_cell 158 = .ok (.bipush 56, 2) := by decide +kernel
theorem dX8_cell_160 : decode cX8_cell 160 = .ok (.sipush 158, 3) := by decide +kernel
theorem dX8_cell_163 : decode cX8_cell 163 = .ok (.sipush 157, 3) := by decide +kernel
theorem dX8_cell_166 : decode cX8_cell 166 = .ok (.invokevirtual 231, 3) := by decide +kernel
theorem dX8_cell_169 : decode cX8_cell 169 = .ok (.aload_n 0, 1) := by decide +kernel
theorem dX8_cell_170 : decode cX8_cell 170 = .ok (.invokevirtual 208, 3) := by decide +kernel
theorem dX8_cell_173 : decode cX8_cell 173 = .ok (.goto 7, 3) := by decide +kernel
theorem dX8_cell_176 : decode cX8_cell 176 = .ok (.aload_n 0, 1) := by decide +kernel
theorem dX8_cell_177 : decode cX8_cell 177 = .ok (.invokevirtual 211, 3) := by decide +kernel
theorem dX8_cell_180 : decode cX8_cell 180 = .ok (.return_, 1) := by decide +kernel

theorem dX8_contact_0 : decode cX8_contact 0 = .ok (.aload_n 0, 1) := by decide +kernel
theorem dX8_contact_1 : decode cX8_contact 1 = .ok (.invokevirtual 247, 3) := by decide +kernel
theorem dX8_contact_4 : decode cX8_contact 4 = .ok (.aload_n 0, 1) := by decide +kernel
theorem dX8_contact_5 : decode cX8_contact 5 = .ok (.sipush 156, 3) := by decide +kernel
theorem dX8_contact_8 : decode cX8_contact 8 = .ok (.invokevirtual 201, 3) := by decide +kernel
theorem dX8_contact_11 : decode cX8_contact 11 = .ok (.aload_n 0, 1) := by decide +kernel
theorem dX8_contact_12 : decode cX8_contact 12 = .ok (.bipush 80, 2) := by decide +kernel
theorem dX8_contact_14 : decode cX8_contact 14 = .ok (.invokevirtual 235, 3) := by decide +kernel
theorem dX8_contact_17 : decode cX8_contact 17 = .ok (.return_, 1) := by decide +kernel

theorem dX8_behindContact_0 : decode cX8_behindContact 0 = .ok (.aload_n 0, 1) := by decide +kernel
theorem dX8_behindContact_1 : decode cX8_behindContact 1 = .ok (.getfield 126, 3) := by decide +kernel
theorem dX8_behindContact_4 : decode cX8_behindContact 4 = .ok (.bipush 62, 2) := by decide +kernel
theorem dX8_behindContact_6 : decode cX8_behindContact 6 = .ok (.if_icmp .ne 33, 3) := by decide +kernel
theorem dX8_behindContact_9 : decode cX8_behindContact 9 = .ok (.aload_n 0, 1) := by decide +kernel
theorem dX8_behindContact_10 : decode cX8_behindContact 10 = .ok (.bipush 33, 2) := by decide +kernel
theorem dX8_behindContact_12 : decode cX8_behindContact 12 = .ok (.aload_n 0, 1) := by decide +kernel
theorem dX8_behindContact_13 : decode cX8_behindContact 13 = .ok (.getfield 217, 3) := by decide +kernel
theorem dX8_behindContact_16 : decode cX8_behindContact 16 = .ok (.aload_n 0, 1) := by decide +kernel
theorem dX8_behindContact_17 : decode cX8_behindContact 17 = .ok (.getfield 220, 3) := by decide +kernel
theorem dX8_behindContact_20 : decode cX8_behindContact 20 = .ok (.invokevirtual 227, 3) := by decide +kernel
theorem dX8_behindContact_23 : decode cX8_behindContact 23 = .ok (.aload_n 0, 1) := by decide +kernel
theorem dX8_behindContact_24 : decode cX8_behindContact 24 = .ok (.bipush 101, 2) := by decide +kernel
theorem dX8_behindContact_26 : decode cX8_behindContact 26 = .ok (.sipush 158, 3) := by decide +kernel
theorem dX8_behindContact_29 : decode cX8_behindContact 29 = .ok (.invokevirtual 205, 3) := by decide +kernel
theorem dX8_behindContact_32 : decode cX8_behindContact 32 = .ok (.aload_n 0, 1) := by decide +kernel
theorem dX8_behindContact_33 : decode cX8_behindContact 33 = .ok (.invokevirtual 208, 3) := by decide +kernel
theorem dX8_behindContact_36 : decode cX8_behindContact 36 = .ok (.goto 17, 3) := by decide +kernel
theorem dX8_behindContact_39 : decode cX8_behindContact 39 = .ok (.aload_n 0, 1) := by decide +kernel
theorem dX8_behindContact_40 : decode cX8_behindContact 40 = .ok (.bipush 6, 2) := by decide +kernel
theorem dX8_behindContact_42 : decode cX8_behindContact 42 = .ok (.aload_n 0, 1) := by decide +kernel
theorem dX8_behindContact_43 : decode cX8_behindContact 43 = .ok (.getfield 217, 3) := by decide +kernel
theorem dX8_behindContact_46 : decode cX8_behindContact 46 = .ok (.aload_n 0, 1) := by decide +kernel
theorem dX8_behindContact_47 : decode cX8_behindContact 47 = .ok (.getfield 220, 3) := by decide +kernel
theorem dX8_behindContact_50 : decode cX8_behindContact 50 = .ok (.invokevirtual 238, 3) := by decide +kernel
theorem dX8_behindContact_53 : decode cX8_behindContact 53 = .ok (.return_, 1) := by decide +kernel

theorem dX8_coil_0 : decode cX8_coil 0 = .ok (.aload_n 0, 1) := by decide +kernel
theorem dX8_coil_1 : decode cX8_coil 1 = .ok (.getfield 126, 3) := by decide +kernel
theorem dX8_coil_4 : decode cX8_coil 4 = .ok (.bipush 66, 2) := by decide +kernel
theorem dX8_coil_6 : decode cX8_coil 6 = .ok (.if_icmp .ne 7, 3) := by decide +kernel
theorem dX8_coil_9 : decode cX8_coil 9 = .ok (.iconst 1, 1) := by decide +kernel
theorem dX8_coil_10 : decode cX8_coil 10 = .ok (.goto 30, 3) := by decide +kernel
theorem dX8_coil_13 : decode cX8_coil 13 = .ok (.aload_n 0, 1) := by decide +kernel
theorem dX8_coil_14 : decode cX8_coil 14 = .ok (.getfield 126, 3) := by decide +kernel
theorem dX8_coil_17 : decode cX8_coil 17 = .ok (.bipush 63, 2) := by decide +kernel
theorem dX8_coil_19 : decode cX8_coil 19 = .ok (.if_icmp .ne 7, 3) := by decide +kernel
theorem dX8_coil_22 : decode cX8_coil 22 = .ok (.iconst 2, 1) := by decide +kernel
theorem dX8_coil_23 : decode cX8_coil 23 = .ok (.goto 17, 3) := by decide +kernel
theorem dX8_coil_26 : decode cX8_coil 26 = .ok (.aload_n 0, 1) := by decide +kernel
theorem dX8_coil_27 : decode cX8_coil 27 = .ok (.getfield 126, 3) := by decide +kernel
theorem dX8_coil_30 : decode cX8_coil 30 = .ok (.bipush 64, 2) := by decide +kernel
theorem dX8_coil_32 : decode cX8_coil 32 = .ok (.if_icmp .ne 7, 3) := by decide +kernel
theorem dX8_coil_35 : decode cX8_coil 35 = .ok (.iconst 3, 1) := by decide +kernel
theorem dX8_coil_36 : decode cX8_coil 36 = .ok (.goto 4, 3) := by decide +kernel
theorem dX8_coil_39 : decode cX8_coil 39 = .ok (.iconst 0, 1) := by decide +kernel
theorem dX8_coil_40 : decode cX8_coil 40 = .ok (.istore_n 1, 1) := by decide +kernel
theorem dX8_coil_41 : decode cX8_coil 41 = .ok (.aload_n 0, 1) := by decide +kernel
theorem dX8_coil_42 : decode cX8_coil 42 = .ok (.getfield 41, 3) := by decide +kernel
theorem dX8_coil_45 : decode cX8_coil 45 = .ok (.aload_n 0, 1) := by decide +kernel
theorem dX8_coil_46 : decode cX8_coil 46 = .ok (.getfield 192, 3) := by decide +kernel
theorem dX8_coil_49 : decode cX8_coil 49 = .ok (.iload_n 1, 1) := by decide +kernel
theorem dX8_coil_50 : decode cX8_coil 50 = .ok (.iastore, 1) := by decide +kernel
theorem dX8_coil_51 : decode cX8_coil 51 = .ok (.iload_n 1, 1) := by decide +kernel
theorem dX8_coil_52 : decode cX8_coil 52 = .ok (.ifCond .le 7, 3) := by decide +kernel
theorem dX8_coil_55 : decode cX8_coil 55 = .ok (.aload_n 0, 1) := by decide +kernel
theorem dX8_coil_56 : decode cX8_coil 56 = .ok (.invokevirtual 208, 3) := by decide +kernel
theorem dX8_coil_59 : decode cX8_coil 59 = .ok (.return_, 1) := by decide +kernel

theorem dX8_moreCells_0 : decode cX8_moreCells 0 = .ok (.aload_n 0, 1) := by decide +kernel
theorem dX8_moreCells_1 : decode cX8_moreCells 1 = .ok (.getfield 126, 3) := by decide +kernel
theorem dX8_moreCells_4 : decode cX8_moreCells 4 = .ok (.bipush 71, 2) := by decide +kernel
theorem dX8_moreCells_6 : decode cX8_moreCells 6 = .ok (.if_icmp .ne 31, 3) := by decide +kernel
theorem dX8_moreCells_9 : decode cX8_moreCells 9 = .ok (.aload_n 0, 1) := by decide +kernel
theorem dX8_moreCells_10 : decode cX8_moreCells 10 = .ok (.bipush 29, 2) := by decide +kernel
theorem dX8_moreCells_12 : decode cX8_moreCells 12 = .ok (.aload_n 0, 1) := by decide +kernel
theorem dX8_moreCells_13 : decode cX8_moreCells 13 = .ok (.getfield 119, 3) := by decide +kernel
theorem dX8_moreCells_16 : decode cX8_moreCells 16 = .ok (.iconst 0, 1) := by decide +kernel
theorem dX8_moreCells_17 : decode cX8_moreCells 17 = .ok (.invokevirtual 238, 3) := by decide +kernel
theorem dX8_moreCells_20 : decode cX8_moreCells 20 = .ok (.aload_n 0, 1) := by decide +kernel
theorem dX8_moreCells_21 : decode cX8_moreCells 21 = .ok (.sipush 154, 3) := by decide +kernel
theorem dX8_moreCells_24 : decode cX8_moreCells 24 = .ok (.sipush 153, 3) := by decide +kernel
theorem dX8_moreCells_27 : decode cX8_moreCells 27 = .ok (.invokevirtual 205, 3) := by decide +kernel
theorem dX8_moreCells_30 : decode cX8_moreCells 30 = .ok (.aload_n 0, 1) := by decide +kernel
theorem dX8_moreCells_31 : decode cX8_moreCells 31 = .ok (.invokevirtual 208, 3) := by decide +kernel
theorem dX8_moreCells_34 : decode cX8_moreCells 34 = .ok (.goto 20, 3) := by decide +kernel
theorem dX8_moreCells_37 : decode cX8_moreCells 37 = .ok (.aload_n 0, 1) := by decide +kernel
theorem dX8_moreCells_38 : decode cX8_moreCells 38 = .ok (.invokevirtual 314, 3) := by decide +kernel
theorem dX8_moreCells_41 : decode cX8_moreCells 41 = .ok (.ifCond .eq 13, 3) := by decide +kernel
theorem dX8_moreCells_44 : decode cX8_moreCells 44 = .ok (.aload_n 0, 1) := by decide +kernel
theorem dX8_moreCells_45 : decode cX8_moreCells 45 = .ok (.sipush 154, 3) := by decide +kernel
theorem dX8_moreCells_48 : decode cX8_moreCells 48 = .ok (.sipush 153, 3) := by decide +kernel
theorem dX8_moreCells_51 : decode cX8_moreCells 51 = .ok (.invokevirtual 205, 3) := by decide +kernel
theorem dX8_moreCells_54 : decode cX8_moreCells 54 = .ok (.return_, 1) := by decide +kernel

theorem dX8_actBlock_0 : decode cX8_actBlock 0 = .ok (.iload_n 1, 1) := by decide +kernel
theorem dX8_actBlock_1 : decode cX8_actBlock 1 = .ok (.tableswitch 206 100 113 #[71, 78, 85, 92, 99, 106, 113, 120, 133, 145, 152, 164, 176, 199], 71) := by decide +kernel
theorem dX8_actBlock_72 : decode cX8_actBlock 72 = .ok (.aload_n 0, 1) := by decide +kernel
theorem dX8_actBlock_73 : decode cX8_actBlock 73 = .ok (.invokevirtual 317, 3) := by decide +kernel
theorem dX8_actBlock_76 : decode cX8_actBlock 76 = .ok (.goto 135, 3) := by decide +kernel
theorem dX8_actBlock_79 : decode cX8_actBlock 79 = .ok (.aload_n 0, 1) := by decide +kernel
theorem dX8_actBlock_80 : decode cX8_actBlock 80 = .ok (.invokevirtual 259, 3) := by decide +kernel
theorem dX8_actBlock_83 : decode cX8_actBlock 83 = .ok (.goto 128, 3) := by decide +kernel
theorem dX8_actBlock_86 : decode cX8_actBlock 86 = .ok (.aload_n 0, 1) := by decide +kernel
theorem dX8_actBlock_87 : decode cX8_actBlock 87 = .ok (.invokevirtual 320, 3) := by decide +kernel
theorem dX8_actBlock_90 : decode cX8_actBlock 90 = .ok (.goto 121, 3) := by decide +kernel
theorem dX8_actBlock_93 : decode cX8_actBlock 93 = .ok (.aload_n 0, 1) := by decide +kernel
theorem dX8_actBlock_94 : decode cX8_actBlock 94 = .ok (.invokevirtual 323, 3) := by decide +kernel
theorem dX8_actBlock_97 : decode cX8_actBlock 97 = .ok (.goto 114, 3) := by decide +kernel
theorem dX8_actBlock_100 : decode cX8_actBlock 100 = .ok (.aload_n 0, 1) := by decide +kernel
theorem dX8_actBlock_101 : decode cX8_actBlock 101 = .ok (.invokevirtual 241, 3) := by decide +kernel
theorem dX8_actBlock_104 : decode cX8_actBlock 104 = .ok (.goto 107, 3) := by decide +kernel
theorem dX8_actBlock_107 : decode cX8_actBlock 107 = .ok (.aload_n 0, 1) := by decide +kernel
theorem dX8_actBlock_108 : decode cX8_actBlock 108 = .ok (.invokevirtual 326, 3) := by decide +kernel
theorem dX8_actBlock_111 : decode cX8_actBlock 111 = .ok (.goto 100, 3) := by decide +kernel
theorem dX8_actBlock_114 : decode cX8_actBlock 114 = .ok (.aload_n 0, 1) := by decide +kernel
theorem dX8_actBlock_115 : decode cX8_actBlock 115 = .ok (.invokevirtual 329, 3) := by decide +kernel
theorem dX8_actBlock_118 : decode cX8_actBlock 118 = .ok (.goto 93, 3) := by decide +kernel
theorem dX8_actBlock_121 : decode cX8_actBlock 121 = .ok (.aload_n 0, 1) := by decide +kernel
theorem dX8_actBlock_122 : decode cX8_actBlock 122 = .ok (.bipush 111, 2) := by decide +kernel
theorem dX8_actBlock_124 : decode cX8_actBlock 124 = .ok (.invokevirtual 201, 3) := by decide +kernel
theorem dX8_actBlock_127 : decode cX8_actBlock 127 = .ok (.aload_n 0, 1) := by decide +kernel
theorem dX8_actBlock_128 : decode cX8_actBlock 128 = .ok (.invokevirtual 332, 3) := by decide +kernel
theorem dX8_actBlock_131 : decode cX8_actBlock 131 = .ok (.goto 80, 3) := by decide +kernel
theorem dX8_actBlock_134 : decode cX8_actBlock 134 = .ok (.aload_n 0, 1) := by decide +kernel
theorem dX8_actBlock_135 : decode cX8_actBlock 135 = .ok (.bipush 10, 2) := by decide +kernel
theorem dX8_actBlock_137 : decode cX8_actBlock 137 = .ok (.iconst (-1), 1) := by decide +kernel
theorem dX8_actBlock_138 : decode cX8_actBlock 138 = .ok (.bipush 112, 2) := by decide +kernel
theorem dX8_actBlock_140 : decode cX8_actBlock 140 = .ok (.invokevirtual 335, 3) := by decide +kernel
theorem dX8_actBlock_143 : decode cX8_actBlock 143 = .ok (.goto 68, 3) := by decide +kernel
theorem dX8_actBlock_146 : decode cX8_actBlock 146 = .ok (.aload_n 0, 1) := by decide +kernel
theorem dX8_actBlock_147 : decode cX8_actBlock 147 = .ok (.invokevirtual 338, 3) := by decide +kernel
theorem dX8_actBlock_150 : decode cX8_actBlock 150 = .ok (.goto 61, 3) := by decide +kernel
theorem dX8_actBlock_153 : decode cX8_actBlock 153 = .ok (.aload_n 0, 1) := by decide +kernel
theorem dX8_actBlock_154 : decode cX8_actBlock 154 = .ok (.bipush 50, 2) := by decide +kernel
theorem dX8_actBlock_156 : decode cX8_actBlock 156 = .ok (.iconst (-1), 1) := by decide +kernel
theorem dX8_actBlock_157 : decode cX8_actBlock 157 = .ok (.bipush 113, 2) := by decide +kernel
theorem dX8_actBlock_159 : decode cX8_actBlock 159 = .ok (.invokevirtual 335, 3) := by decide +kernel
theorem dX8_actBlock_162 : decode cX8_actBlock 162 = .ok (.goto 49, 3) := by decide +kernel
theorem dX8_actBlock_165 : decode cX8_actBlock 165 = .ok (.aload_n 0, 1) := by decide +kernel
theorem dX8_actBlock_166 : decode cX8_actBlock 166 = .ok (.bipush 59, 2) := by decide +kernel
theorem dX8_actBlock_168 : decode cX8_actBlock 168 = .ok (.iconst (-1), 1) := by decide +kernel
theorem dX8_actBlock_169 : decode cX8_actBlock 169 = .ok (.bipush 107, 2) := by decide +kernel
theorem dX8_actBlock_171 : decode cX8_actBlock 171 = .ok (.invokevirtual 335, 3) := by decide +kernel
theorem dX8_actBlock_174 : decode cX8_actBlock 174 = .ok (.goto 37, 3) := by decide +kernel
theorem dX8_actBlock_177 : decode cX8_actBlock 177 = .ok (.aload_n 0, 1) := by decide +kernel
theorem dX8_actBlock_178 : decode cX8_actBlock 178 = .ok (.bipush 7, 2) := by decide +kernel
theorem dX8_actBlock_180 : decode cX8_actBlock 180 = .ok (.aload_n 0, 1) := by decide +kernel
theorem dX8_actBlock_181 : decode cX8_actBlock 181 = .ok (.getfield 119, 3) := by decide +kernel
theorem dX8_actBlock_184 : decode cX8_actBlock 184 = .ok (.aload_n 0, 1) := by decide +kernel
theorem dX8_actBlock_185 : decode cX8_actBlock 185 = .ok (.getfield 132, 3) := by decide +kernel
theorem dX8_actBlock_188 : decode cX8_actBlock 188 = .ok (.invokevirtual 238, 3) := by decide +kernel
theorem dX8_actBlock_191 : decode cX8_actBlock 191 = .ok (.aload_n 0, 1) := by decide +kernel
theorem dX8_actBlock_192 : decode cX8_actBlock 192 = .ok (.bipush 82, 2) := by decide +kernel
theorem dX8_actBlock_194 : decode cX8_actBlock 194 = .ok (.invokevirtual 235, 3) := by decide +kernel
theorem dX8_actBlock_197 : decode cX8_actBlock 197 = .ok (.goto 14, 3) := by decide +kernel
theorem dX8_actBlock_200 : decode cX8_actBlock 200 = .ok (.aload_n 0, 1) := by decide +kernel
theorem dX8_actBlock_201 : decode cX8_actBlock 201 = .ok (.invokevirtual 341, 3) := by decide +kernel
theorem dX8_actBlock_204 : decode cX8_actBlock 204 = .ok (.goto 7, 3) := by decide +kernel
theorem dX8_actBlock_207 : decode cX8_actBlock 207 = .ok (.aload_n 0, 1) := by decide +kernel
theorem dX8_actBlock_208 : decode cX8_actBlock 208 = .ok (.invokevirtual 344, 3) := by decide +kernel
theorem dX8_actBlock_211 : decode cX8_actBlock 211 = .ok (.return_, 1) := by decide +kernel

theorem dX8_actStatement_0 : decode cX8_actStatement 0 = .ok (.iload_n 1, 1) := by decide +kernel
theorem dX8_actStatement_1 : decode cX8_actStatement 1 = .ok (.tableswitch 272 115 132 #[87, 94, 101, 108, 125, 134, 141, 148, 157, 164, 177, 189, 198, 210, 217, 224, 243, 265], 87) := by decide +kernel
theorem dX8_actStatement_88 : decode cX8_actStatement 88 = .ok (.aload_n 0, 1) := by decide +kernel
theorem dX8_actStatement_89 : decode cX8_actStatement 89 = .ok (.invokevirtual 347, 3) := by decide +kernel
theorem dX8_actStatement_92 : decode cX8_actStatement 92 = .ok (.goto 193, 3) := by decide +kernel
theorem dX8_actStatement_95 : decode cX8_actStatement 95 = .ok (.aload_n 0, 1) := by decide +kernel
theorem dX8_actStatement_96 : decode cX8_actStatement 96 = .ok (.invokevirtual 350, 3) := by decide +kernel
theorem dX8_actStatement_99 : decode cX8_actStatement 99 = .ok (.goto 186, 3) := by decide +kernel
theorem dX8_actStatement_102 : decode cX8_actStatement 102 = .ok (.aload_n 0, 1) := by decide +kernel
theorem dX8_actStatement_103 : decode cX8_actStatement 103 = .ok (.invokevirtual 353, 3) := by decide +kernel
theorem dX8_actStatement_106 : decode cX8_actStatement 106 = .ok (.goto 179, 3) := by decide +kernel
theorem dX8_actStatement_109 : decode cX8_actStatement 109 = .ok (.aload_n 0, 1) := by decide +kernel
theorem dX8_actStatement_110 : decode cX8_actStatement 110 = .ok (.dup, 1) := by decide +kernel
theorem dX8_actStatement_111 : decode cX8_actStatement 111 = .ok (.getfield 214, 3) := by decide +kernel
theorem dX8_actStatement_114 : decode cX8_actStatement 114 = .ok (.iconst 1, 1) := by decide +kernel
theorem dX8_actStatement_115 : decode cX8_actStatement 115 = .ok (.isub, 1) := by decide +kernel
theorem dX8_actStatement_116 : decode cX8_actStatement 116 = .ok (.putfield 214, 3) := by decide +kernel
theorem dX8_actStatement_119 : decode cX8_actStatement 119 = .ok (.aload_n 0, 1) := by decide +kernel
theorem dX8_actStatement_120 : decode cX8_actStatement 120 = .ok (.invokevirtual 259, 3) := by decide +kernel
theorem dX8_actStatement_123 : decode cX8_actStatement 123 = .ok (.goto 162, 3) := by decide +kernel
theorem dX8_actStatement_126 : decode cX8_actStatement 126 = .ok (.aload_n 0, 1) := by decide +kernel
theorem dX8_actStatement_127 : decode cX8_actStatement 127 = .ok (.bipush 17, 2) := by decide +kernel
theorem dX8_actStatement_129 : decode cX8_actStatement 129 = .ok (.invokevirtual 265, 3) := by decide +kernel
theorem dX8_actStatement_132 : decode cX8_actStatement 132 = .ok (.goto 153, 3) := by decide +kernel
theorem dX8_actStatement_135 : decode cX8_actStatement 135 = .ok (.aload_n 0, 1) := by decide +kernel
theorem dX8_actStatement_136 : decode cX8_actStatement 136 = .ok (.invokevirtual 262, 3) := by decide +kernel
theorem dX8_actStatement_139 : decode cX8_actStatement 139 = .ok (.goto 146, 3) := by decide +kernel
theorem dX8_actStatement_142 : decode cX8_actStatement 142 = .ok (.aload_n 0, 1) := by decide +kernel
theorem dX8_actStatement_143 : decode cX8_actStatement 143 = .ok (.invokevirtual 356, 3) := by decide +kernel
theorem dX8_actStatement_146 : decode cX8_actStatement 146 = .ok (.goto 139, 3) := by decide +kernel
theorem dX8_actStatement_149 : decode cX8_actStatement 149 = .ok (.aload_n 0, 1) := by decide +kernel
theorem dX8_actStatement_150 : decode cX8_actStatement 150 = .ok (.bipush 61, 2) := by decide +kernel
theorem dX8_actStatement_152 : decode cX8_actStatement 152 = .ok (.invokevirtual 265, 3) := by decide +kernel
theorem dX8_actStatement_155 : decode cX8_actStatement 155 = .ok (.goto 130, 3) := by decide +kernel
theorem dX8_actStatement_158 : decode cX8_actStatement 158 = .ok (.aload_n 0, 1) := by decide +kernel
theorem dX8_actStatement_159 : decode cX8_actStatement 159 = .ok (.invokevirtual 359, 3) := by decide +kernel
theorem dX8_actStatement_162 : decode cX8_actStatement 162 = .ok (.goto 123, 3) := by decide +kernel
theorem dX8_actStatement_165 : decode cX8_actStatement 165 = .ok (.aload_n 0, 1) := by decide +kernel
theorem dX8_actStatement_166 : decode cX8_actStatement 166 = .ok (.bipush 59, 2) := by decide +kernel
theorem dX8_actStatement_168 : decode cX8_actStatement 168 = .ok (.bipush 124, 2) := by decide +kernel
theorem dX8_actStatement_170 : decode cX8_actStatement 170 = .ok (.bipush 123, 2) := by decide +kernel
theorem dX8_actStatement_172 : decode cX8_actStatement 172 = .ok (.invokevirtual 335, 3) := by decide +kernel
theorem dX8_actStatement_175 : decode cX8_actStatement 175 = .ok (.goto 110, 3) := by decide +kernel
theorem dX8_actStatement_178 : decode cX8_actStatement 178 = .ok (.aload_n 0, 1) := by decide +kernel
theorem dX8_actStatement_179 : decode cX8_actStatement 179 = .ok (.bipush 51, 2) := by decide +kernel
theorem dX8_actStatement_181 : decode cX8_actStatement 181 = .ok (.iconst (-1), 1) := by decide +kernel
theorem dX8_actStatement_182 : decode cX8_actStatement 182 = .ok (.bipush 113, 2) := by decide +kernel
theorem dX8_actStatement_184 : decode cX8_actStatement 184 = .ok (.invokevirtual 335, 3) := by decide +kernel
theorem dX8_actStatement_187 : decode cX8_actStatement 187 = .ok (.goto 98, 3) := by decide +kernel
theorem dX8_actStatement_190 : decode cX8_actStatement 190 = .ok (.aload_n 0, 1) := by decide +kernel
theorem dX8_actStatement_191 : decode cX8_actStatement 191 = .ok (.bipush 26, 2) := by decide +kernel
theorem dX8_actStatement_193 : decode cX8_actStatement 193 = .ok (.invokevirtual 265, 3) := by decide +kernel
theorem dX8_actStatement_196 : decode cX8_actStatement 196 = .ok (.goto 89, 3) := by decide +kernel
theorem dX8_actStatement_199 : decode cX8_actStatement 199 = .ok (.aload_n 0, 1) := by decide +kernel
theorem dX8_actStatement_200 : decode cX8_actStatement 200 = .ok (.bipush 25, 2) := by decide +kernel
theorem dX8_actStatement_202 : decode cX8_actStatement 202 = .ok (.iconst (-1), 1) := by decide +kernel
theorem dX8_actStatement_203 : decode cX8_actStatement 203 = .ok (.bipush 113, 2) := by decide +kernel
theorem dX8_actStatement_205 : decode cX8_actStatement 205 = .ok (.invokevirtual 335, 3) := by decide +kernel
theorem dX8_actStatement_208 : decode cX8_actStatement 208 = .ok (.goto 77, 3) := by decide +kernel
theorem dX8_actStatement_211 : decode cX8_actStatement 211 = .ok (.aload_n 0, 1) := by decide +kernel
theorem dX8_actStatement_212 : decode cX8_actStatement 212 = .ok (.invokevirtual 362, 3) := by decide +kernel
theorem dX8_actStatement_215 : decode cX8_actStatement 215 = .ok (.goto 70, 3) := by decide +kernel
theorem dX8_actStatement_218 : decode cX8_actStatement 218 = .ok (.aload_n 0, 1) := by decide +kernel
theorem dX8_actStatement_219 : decode cX8_actStatement 219 = .ok (.invokevirtual 365, 3) := by decide +kernel
theorem dX8_actStatement_222 : decode cX8_actStatement 222 = .ok (.goto 63, 3) := by decide +kernel
theorem dX8_actStatement_225 : decode cX8_actStatement 225 = .ok (.aload_n 0, 1) := by decide +kernel
theorem dX8_actStatement_226 : decode cX8_actStatement 226 = .ok (.dup, 1) := by decide +kernel
theorem dX8_actStatement_227 : decode cX8_actStatement 227 = .ok (.getfield 214, 3) := by decide +kernel
theorem dX8_actStatement_230 : decode cX8_actStatement 230 = .ok (.iconst 1, 1) := by decide +kernel
theorem dX8_actStatement_231 : decode cX8_actStatement 231 = .ok (.isub, 1) := by decide +kernel
theorem dX8_actStatement_232 : decode cX8_actStatement 232 = .ok (.putfield 214, 3) := by decide +kernel
theorem dX8_actStatement_235 : decode cX8_actStatement 235 = .ok (.aload_n 0, 1) := by decide +kernel
theorem dX8_actStatement_236 : decode cX8_actStatement 236 = .ok (.bipush 56, 2) := by decide +kernel
theorem dX8_actStatement_238 : decode cX8_actStatement 238 = .ok (.invokevirtual 235, 3) := by decide +kernel
theorem dX8_actStatement_241 : decode cX8_actStatement 241 = .ok (.goto 44, 3) := by decide +kernel
theorem dX8_actStatement_244 : decode cX8_actStatement 244 = .ok (.aload_n 0, 1) := by decide +kernel
theorem dX8_actStatement_245 : decode cX8_actStatement 245 = .ok (.getfield 126, 3) := by decide +kernel
theorem dX8_actStatement_248 : decode cX8_actStatement 248 = .ok (.bipush 80, 2) := by decide +kernel
theorem dX8_actStatement_250 : decode cX8_actStatement 250 = .ok (.if_icmp .ne 35, 3) := by decide +kernel
theorem dX8_actStatement_253 : decode cX8_actStatement 253 = .ok (.aload_n 0, 1) := by decide +kernel
theorem dX8_actStatement_254 : decode cX8_actStatement 254 = .ok (.sipush 133, 3) := by decide +kernel
theorem dX8_actStatement_257 : decode cX8_actStatement 257 = .ok (.sipush 132, 3) := by decide +kernel
theorem dX8_actStatement_260 : decode cX8_actStatement 260 = .ok (.invokevirtual 205, 3) := by decide +kernel
theorem dX8_actStatement_263 : decode cX8_actStatement 263 = .ok (.goto 22, 3) := by decide +kernel
theorem dX8_actStatement_266 : decode cX8_actStatement 266 = .ok (.aload_n 0, 1) := by decide +kernel
theorem dX8_actStatement_267 : decode cX8_actStatement 267 = .ok (.invokevirtual 368, 3) := by decide +kernel
theorem dX8_actStatement_270 : decode cX8_actStatement 270 = .ok (.goto 15, 3) := by decide +kernel
theorem dX8_actStatement_273 : decode cX8_actStatement 273 = .ok (.aload_n 0, 1) := by decide +kernel
theorem dX8_actStatement_274 : decode cX8_actStatement 274 = .ok (.bipush 59, 2) := by decide +kernel
theorem dX8_actStatement_276 : decode cX8_actStatement 276 = .ok (.sipush 133, 3) := by decide +kernel
theorem dX8_actStatement_279 : decode cX8_actStatement 279 = .ok (.sipush 132, 3) := by decide +kernel
theorem dX8_actStatement_282 : decode cX8_actStatement 282 = .ok (.invokevirtual 335, 3) := by decide +kernel
theorem dX8_actStatement_285 : decode cX8_actStatement 285 = .ok (.return_, 1) := by decide +kernel

theorem dX8_pushArgument_0 : decode cX8_pushArgument 0 = .ok (.aload_n 0, 1) := by decide +kernel
theorem dX8_pushArgument_1 : decode cX8_pushArgument 1 = .ok (.sipush 144, 3) := by decide +kernel
theorem dX8_pushArgument_4 : decode cX8_pushArgument 4 = .ok (.sipush 145, 3) := by decide +kernel
theorem dX8_pushArgument_7 : decode cX8_pushArgument 7 = .ok (.invokevirtual 205, 3) := by decide +kernel
theorem dX8_pushArgument_10 : decode cX8_pushArgument 10 = .ok (.aload_n 0, 1) := by decide +kernel
theorem dX8_pushArgument_11 : decode cX8_pushArgument 11 = .ok (.sipush 134, 3) := by decide +kernel
theorem dX8_pushArgument_14 : decode cX8_pushArgument 14 = .ok (.invokevirtual 201, 3) := by decide +kernel
theorem dX8_pushArgument_17 : decode cX8_pushArgument 17 = .ok (.return_, 1) := by decide +kernel

theorem dX8_actOperand_0 : decode cX8_actOperand 0 = .ok (.iload_n 1, 1) := by decide +kernel
theorem dX8_actOperand_1 : decode cX8_actOperand 1 = .ok (.tableswitch 164 134 144 #[59, 66, 73, 80, 95, 102, 109, 116, 123, 137, 144], 59) := by decide +kernel
theorem dX8_actOperand_60 : decode cX8_actOperand 60 = .ok (.aload_n 0, 1) := by decide +kernel
theorem dX8_actOperand_61 : decode cX8_actOperand 61 = .ok (.invokevirtual 371, 3) := by decide +kernel
theorem dX8_actOperand_64 : decode cX8_actOperand 64 = .ok (.goto 105, 3) := by decide +kernel
theorem dX8_actOperand_67 : decode cX8_actOperand 67 = .ok (.aload_n 0, 1) := by decide +kernel
theorem dX8_actOperand_68 : decode cX8_actOperand 68 = .ok (.invokevirtual 374, 3) := by decide +kernel
theorem dX8_actOperand_71 : decode cX8_actOperand 71 = .ok (.goto 98, 3) := by decide +kernel
theorem dX8_actOperand_74 : decode cX8_actOperand 74 = .ok (.aload_n 0, 1) := by decide +kernel
theorem dX8_actOperand_75 : decode cX8_actOperand 75 = .ok (.invokevirtual 377, 3) := by decide +kernel
theorem dX8_actOperand_78 : decode cX8_actOperand 78 = .ok (.goto 91, 3) := by decide +kernel
theorem dX8_actOperand_81 : decode cX8_actOperand 81 = .ok (.aload_n 0, 1) := by decide +kernel
theorem dX8_actOperand_82 : decode cX8_actOperand 82 = .ok (.aload_n 0, 1) := by decide +kernel
theorem dX8_actOperand_83 : decode cX8_actOperand 83 = .ok (.invokevirtual 280, 3) := by decide +kernel
theorem dX8_actOperand_86 : decode cX8_actOperand 86 = .ok (.aload_n 0, 1) := by decide +kernel
theorem dX8_actOperand_87 : decode cX8_actOperand 87 = .ok (.getfield 192, 3) := by decide +kernel
theorem dX8_actOperand_90 : decode cX8_actOperand 90 = .ok (.invokevirtual 195, 3) := by decide +kernel
theorem dX8_actOperand_93 : decode cX8_actOperand 93 = .ok (.goto 76, 3) := by decide +kernel
theorem dX8_actOperand_96 : decode cX8_actOperand 96 = .ok (.aload_n 0, 1) := by decide +kernel
theorem dX8_actOperand_97 : decode cX8_actOperand 97 = .ok (.invokevirtual 380, 3) := by decide +kernel
theorem dX8_actOperand_100 : decode cX8_actOperand 100 = .ok (.goto 69, 3) := by decide +kernel
theorem dX8_actOperand_103 : decode cX8_actOperand 103 = .ok (.aload_n 0, 1) := by decide +kernel
theorem dX8_actOperand_104 : decode cX8_actOperand 104 = .ok (.invokevirtual 383, 3) := by decide +kernel
theorem dX8_actOperand_107 : decode cX8_actOperand 107 = .ok (.goto 62, 3) := by decide +kernel
theorem dX8_actOperand_110 : decode cX8_actOperand 110 = .ok (.aload_n 0, 1) := by decide +kernel
theorem dX8_actOperand_111 : decode cX8_actOperand 111 = .ok (.invokevirtual 386, 3) := by decide +kernel
theorem dX8_actOperand_114 : decode cX8_actOperand 114 = .ok (.goto 55, 3) := by decide +kernel
theorem dX8_actOperand_117 : decode cX8_actOperand 117 = .ok (.aload_n 0, 1) := by decide +kernel
theorem dX8_actOperand_118 : decode cX8_actOperand 118 = .ok (.invokevirtual 389, 3) := by decide +kernel
theorem dX8_actOperand_121 : decode cX8_actOperand 121 = .ok (.goto 48, 3) := by decide +kernel
theorem dX8_actOperand_124 : decode cX8_actOperand 124 = .ok (.aload_n 0, 1) := by decide +kernel
theorem dX8_actOperand_125 : decode cX8_actOperand 125 = .ok (.invokevirtual 392, 3) := by decide +kernel
theorem dX8_actOperand_128 : decode cX8_actOperand 128 = .ok (.ifCond .eq 41, 3) := by decide +kernel
theorem dX8_actOperand_131 : decode cX8_actOperand 131 = .ok (.aload_n 0, 1) := by decide +kernel
theorem dX8_actOperand_132 : decode cX8_actOperand 132 = .ok (.invokevirtual 395, 3) := by decide +kernel
theorem dX8_actOperand_135 : decode cX8_actOperand 135 = .ok (.goto 34, 3) := by decide +kernel
theorem dX8_actOperand_138 : decode cX8_actOperand 138 = .ok (.aload_n 0, 1) := by decide +kernel
theorem dX8_actOperand_139 : decode cX8_actOperand 139 = .ok (.invokevirtual 398, 3) := by decide +kernel
theorem dX8_actOperand_142 : decode cX8_actOperand 142 = .ok (.goto 27, 3) := by decide +kernel
theorem dX8_actOperand_145 : decode cX8_actOperand 145 = .ok (.aload_n 0, 1) := by decide +kernel
theorem dX8_actOperand_146 : decode cX8_actOperand 146 = .ok (.getfield 126, 3) := by decide +kernel
theorem dX8_actOperand_149 : decode cX8_actOperand 149 = .ok (.bipush 59, 2) := by decide +kernel
theorem dX8_actOperand_151 : decode cX8_actOperand 151 = .ok (.if_icmp .ne 18, 3) := by decide +kernel
theorem dX8_actOperand_154 : decode cX8_actOperand 154 = .ok (.aload_n 0, 1) := by decide +kernel
theorem dX8_actOperand_155 : decode cX8_actOperand 155 = .ok (.invokevirtual 395, 3) := by decide +kernel
theorem dX8_actOperand_158 : decode cX8_actOperand 158 = .ok (.aload_n 0, 1) := by decide +kernel
theorem dX8_actOperand_159 : decode cX8_actOperand 159 = .ok (.invokevirtual 208, 3) := by decide +kernel
theorem dX8_actOperand_162 : decode cX8_actOperand 162 = .ok (.goto 7, 3) := by decide +kernel
theorem dX8_actOperand_165 : decode cX8_actOperand 165 = .ok (.aload_n 0, 1) := by decide +kernel
theorem dX8_actOperand_166 : decode cX8_actOperand 166 = .ok (.invokevirtual 299, 3) := by decide +kernel
theorem dX8_actOperand_169 : decode cX8_actOperand 169 = .ok (.return_, 1) := by decide +kernel

theorem dX8_actRung_0 : decode cX8_actRung 0 = .ok (.iload_n 1, 1) := by decide +kernel
theorem dX8_actRung_1 : decode cX8_actRung 1 = .ok (.tableswitch 178 150 157 #[47, 95, 123, 143, 150, 157, 164, 171], 47) := by decide +kernel
theorem dX8_actRung_48 : decode cX8_actRung 48 = .ok (.aload_n 0, 1) := by decide +kernel
theorem dX8_actRung_49 : decode cX8_actRung 49 = .ok (.getfield 126, 3) := by decide +kernel
theorem dX8_actRung_52 : decode cX8_actRung 52 = .ok (.bipush 39, 2) := by decide +kernel
theorem dX8_actRung_54 : decode cX8_actRung 54 = .ok (.if_icmp .ne 129, 3) := by decide +kernel
theorem dX8_actRung_57 : decode cX8_actRung 57 = .ok (.aload_n 0, 1) := by decide +kernel
theorem dX8_actRung_58 : decode cX8_actRung 58 = .ok (.bipush 23, 2) := by decide +kernel
theorem dX8_actRung_60 : decode cX8_actRung 60 = .ok (.aload_n 0, 1) := by decide +kernel
theorem dX8_actRung_61 : decode cX8_actRung 61 = .ok (.getfield 119, 3) := by decide +kernel
theorem dX8_actRung_64 : decode cX8_actRung 64 = .ok (.iconst 0, 1) := by decide +kernel
theorem dX8_actRung_65 : decode cX8_actRung 65 = .ok (.invokevirtual 227, 3) := by decide +kernel
theorem dX8_actRung_68 : decode cX8_actRung 68 = .ok (.aload_n 0, 1) := by decide +kernel
theorem dX8_actRung_69 : decode cX8_actRung 69 = .ok (.sipush 150, 3) := by decide +kernel
theorem dX8_actRung_72 : decode cX8_actRung 72 = .ok (.bipush 101, 2) := by decide +kernel
theorem dX8_actRung_74 : decode cX8_actRung 74 = .ok (.bipush 40, 2) := by decide +kernel
theorem dX8_actRung_76 : decode cX8_actRung 76 = .ok (.sipush 152, 3) := by decide +kernel
theorem dX8_actRung_79 : decode cX8_actRung 79 = .ok (.invokevirtual 231, 3) := by decide +kernel
theorem dX8_actRung_82 : decode cX8_actRung 82 = .ok (.aload_n 0, 1) := by decide +kernel
theorem dX8_actRung_83 : decode cX8_actRung 83 = .ok (.sipush 151, 3) := by decide +kernel
theorem dX8_actRung_86 : decode cX8_actRung 86 = .ok (.invokevirtual 201, 3) := by decide +kernel
theorem dX8_actRung_89 : decode cX8_actRung 89 = .ok (.aload_n 0, 1) := by decide +kernel
theorem dX8_actRung_90 : decode cX8_actRung 90 = .ok (.invokevirtual 208, 3) := by decide +kernel
theorem dX8_actRung_93 : decode cX8_actRung 93 = .ok (.goto 90, 3) := by decide +kernel
theorem dX8_actRung_96 : decode cX8_actRung 96 = .ok (.aload_n 0, 1) := by decide +kernel
theorem dX8_actRung_97 : decode cX8_actRung 97 = .ok (.bipush 24, 2) := by decide +kernel
theorem dX8_actRung_99 : decode cX8_actRung 99 = .ok (.aload_n 0, 1) := by decide +kernel
theorem dX8_actRung_100 : decode cX8_actRung 100 = .ok (.getfield 119, 3) := by decide +kernel
theorem dX8_actRung_103 : decode cX8_actRung 103 = .ok (.iconst 0, 1) := by decide +kernel
theorem dX8_actRung_104 : decode cX8_actRung 104 = .ok (.invokevirtual 227, 3) := by decide +kernel
theorem dX8_actRung_107 : decode cX8_actRung 107 = .ok (.aload_n 0, 1) := by decide +kernel
theorem dX8_actRung_108 : decode cX8_actRung 108 = .ok (.bipush 101, 2) := by decide +kernel
theorem dX8_actRung_110 : decode cX8_actRung 110 = .ok (.bipush 60, 2) := by decide +kernel
theorem dX8_actRung_112 : decode cX8_actRung 112 = .ok (.sipush 154, 3) := by decide +kernel
theorem dX8_actRung_115 : decode cX8_actRung 115 = .ok (.sipush 153, 3) := by decide +kernel
theorem dX8_actRung_118 : decode cX8_actRung 118 = .ok (.invokevirtual 231, 3) := by decide +kernel
theorem dX8_actRung_121 : decode cX8_actRung 121 = .ok (.goto 62, 3) := by decide +kernel
theorem dX8_actRung_124 : decode cX8_actRung 124 = .ok (.aload_n 0, 1) := by decide +kernel
theorem dX8_actRung_125 : decode cX8_actRung 125 = .ok (.invokevirtual 314, 3) := by decide +kernel
theorem dX8_actRung_128 : decode cX8_actRung 128 = .ok (.ifCond .eq 55, 3) := by decide +kernel
theorem dX8_actRung_131 : decode cX8_actRung 131 = .ok (.aload_n 0, 1) := by decide +kernel
theorem dX8_actRung_132 : decode cX8_actRung 132 = .ok (.sipush 152, 3) := by decide +kernel
theorem dX8_actRung_135 : decode cX8_actRung 135 = .ok (.sipush 151, 3) := by decide +kernel
theorem dX8_actRung_138 : decode cX8_actRung 138 = .ok (.invokevirtual 205, 3) := by decide +kernel
theorem dX8_actRung_141 : decode cX8_actRung 141 = .ok (.goto 42, 3) := by decide +kernel
theorem dX8_actRung_144 : decode cX8_actRung 144 = .ok (.aload_n 0, 1) := by decide +kernel
theorem dX8_actRung_145 : decode cX8_actRung 145 = .ok (.invokevirtual 401, 3) := by decide +kernel
theorem dX8_actRung_148 : decode cX8_actRung 148 = .ok (.goto 35, 3) := by decide +kernel
theorem dX8_actRung_151 : decode cX8_actRung 151 = .ok (.aload_n 0, 1) := by decide +kernel
theorem dX8_actRung_152 : decode cX8_actRung 152 = .ok (.invokevirtual 404, 3) := by decide +kernel
theorem dX8_actRung_155 : decode cX8_actRung 155 = .ok (.goto 28, 3) := by decide +kernel
theorem dX8_actRung_158 : decode cX8_actRung 158 = .ok (.aload_n 0, 1) := by decide +kernel
theorem dX8_actRung_159 : decode cX8_actRung 159 = .ok (.invokevirtual 407, 3) := by decide +kernel
theorem dX8_actRung_162 : decode cX8_actRung 162 = .ok (.goto 21, 3) := by decide +kernel
theorem dX8_actRung_165 : decode cX8_actRung 165 = .ok (.aload_n 0, 1) := by decide +kernel
theorem dX8_actRung_166 : decode cX8_actRung 166 = .ok (.invokevirtual 410, 3) := by decide +kernel
theorem dX8_actRung_169 : decode cX8_actRung 169 = .ok (.goto 14, 3) := by decide +kernel
theorem dX8_actRung_172 : decode cX8_actRung 172 = .ok (.aload_n 0, 1) := by decide +kernel
theorem dX8_actRung_173 : decode cX8_actRung 173 = .ok (.invokevirtual 413, 3) := by decide +kernel
theorem dX8_actRung_176 : decode cX8_actRung 176 = .ok (.goto 7, 3) := by decide +kernel
theorem dX8_actRung_179 : decode cX8_actRung 179 = .ok (.aload_n 0, 1) := by decide +kernel
theorem dX8_actRung_180 : decode cX8_actRung 180 = .ok (.invokevirtual 332, 3) := by decide +kernel
theorem dX8_actRung_183 : decode cX8_actRung 183 = .ok (.return_, 1) := by decide +kernel

theorem dX8_act_0 : decode cX8_act 0 = .ok (.iload_n 1, 1) := by decide +kernel
theorem dX8_act_1 : decode cX8_act 1 = .ok (.bipush 100, 2) := by decide +kernel
theorem dX8_act_3 : decode cX8_act 3 = .ok (.if_icmp .ge 11, 3) := by decide +kernel
theorem dX8_act_6 : decode cX8_act 6 = .ok (.aload_n 0, 1) := by decide +kernel
theorem dX8_act_7 : decode cX8_act 7 = .ok (.iload_n 1, 1) := by decide +kernel
theorem dX8_act_8 : decode cX8_act 8 = .ok (.invokevirtual 235, 3) := by decide +kernel
theorem dX8_act_11 : decode cX8_act 11 = .ok (.goto 52, 3) := by decide +kernel
theorem dX8_act_14 : decode cX8_act 14 = .ok (.iload_n 1, 1) := by decide +kernel
theorem dX8_act_15 : decode cX8_act 15 = .ok (.bipush 115, 2) := by decide +kernel
theorem dX8_act_17 : decode cX8_act 17 = .ok (.if_icmp .ge 11, 3) := by decide +kernel
theorem dX8_act_20 : decode cX8_act 20 = .ok (.aload_n 0, 1) := by decide +kernel
theorem dX8_act_21 : decode cX8_act 21 = .ok (.iload_n 1, 1) := by decide +kernel
theorem dX8_act_22 : decode cX8_act 22 = .ok (.invokevirtual 416, 3) := by decide +kernel
theorem dX8_act_25 : decode cX8_act 25 = .ok (.goto 38, 3) := by decide +kernel
theorem dX8_act_28 : decode cX8_act 28 = .ok (.iload_n 1, 1) := by decide +kernel
theorem dX8_act_29 : decode cX8_act 29 = .ok (.sipush 134, 3) := by decide +kernel
theorem dX8_act_32 : decode cX8_act 32 = .ok (.if_icmp .ge 11, 3) := by decide +kernel
theorem dX8_act_35 : decode cX8_act 35 = .ok (.aload_n 0, 1) := by decide +kernel
theorem dX8_act_36 : decode cX8_act 36 = .ok (.iload_n 1, 1) := by decide +kernel
theorem dX8_act_37 : decode cX8_act 37 = .ok (.invokevirtual 419, 3) := by decide +kernel
theorem dX8_act_40 : decode cX8_act 40 = .ok (.goto 23, 3) := by decide +kernel
theorem dX8_act_43 : decode cX8_act 43 = .ok (.iload_n 1, 1) := by decide +kernel
theorem dX8_act_44 : decode cX8_act 44 = .ok (.sipush 150, 3) := by decide +kernel
theorem dX8_act_47 : decode cX8_act 47 = .ok (.if_icmp .ge 11, 3) := by decide +kernel
theorem dX8_act_50 : decode cX8_act 50 = .ok (.aload_n 0, 1) := by decide +kernel
theorem dX8_act_51 : decode cX8_act 51 = .ok (.iload_n 1, 1) := by decide +kernel
theorem dX8_act_52 : decode cX8_act 52 = .ok (.invokevirtual 422, 3) := by decide +kernel
theorem dX8_act_55 : decode cX8_act 55 = .ok (.goto 8, 3) := by decide +kernel
theorem dX8_act_58 : decode cX8_act 58 = .ok (.aload_n 0, 1) := by decide +kernel
theorem dX8_act_59 : decode cX8_act 59 = .ok (.iload_n 1, 1) := by decide +kernel
theorem dX8_act_60 : decode cX8_act 60 = .ok (.invokevirtual 425, 3) := by decide +kernel
theorem dX8_act_63 : decode cX8_act 63 = .ok (.return_, 1) := by decide +kernel

theorem dX8_following_0 : decode cX8_following 0 = .ok (.iload_n 1, 1) := by decide +kernel
theorem dX8_following_1 : decode cX8_following 1 = .ok (.istore_n 2, 1) := by decide +kernel
theorem dX8_following_2 : decode cX8_following 2 = .ok (.aload_n 0, 1) := by decide +kernel
theorem dX8_following_3 : decode cX8_following 3 = .ok (.getfield 47, 3) := by decide +kernel
theorem dX8_following_6 : decode cX8_following 6 = .ok (.iload_n 2, 1) := by decide +kernel
theorem dX8_following_7 : decode cX8_following 7 = .ok (.iaload, 1) := by decide +kernel
theorem dX8_following_8 : decode cX8_following 8 = .ok (.iconst (-1), 1) := by decide +kernel
theorem dX8_following_9 : decode cX8_following 9 = .ok (.if_icmp .eq 10, 3) := by decide +kernel
theorem dX8_following_12 : decode cX8_following 12 = .ok (.aload_n 0, 1) := by decide +kernel
theorem dX8_following_13 : decode cX8_following 13 = .ok (.getfield 47, 3) := by decide +kernel
theorem dX8_following_16 : decode cX8_following 16 = .ok (.iload_n 2, 1) := by decide +kernel
theorem dX8_following_17 : decode cX8_following 17 = .ok (.iaload, 1) := by decide +kernel
theorem dX8_following_18 : decode cX8_following 18 = .ok (.ireturn, 1) := by decide +kernel
theorem dX8_following_19 : decode cX8_following 19 = .ok (.iload_n 2, 1) := by decide +kernel
theorem dX8_following_20 : decode cX8_following 20 = .ok (.iconst (-1), 1) := by decide +kernel
theorem dX8_following_21 : decode cX8_following 21 = .ok (.if_icmp .eq 23, 3) := by decide +kernel
theorem dX8_following_24 : decode cX8_following 24 = .ok (.aload_n 0, 1) := by decide +kernel
theorem dX8_following_25 : decode cX8_following 25 = .ok (.getfield 53, 3) := by decide +kernel
theorem dX8_following_28 : decode cX8_following 28 = .ok (.iload_n 2, 1) := by decide +kernel
theorem dX8_following_29 : decode cX8_following 29 = .ok (.iaload, 1) := by decide +kernel
theorem dX8_following_30 : decode cX8_following 30 = .ok (.iconst (-1), 1) := by decide +kernel
theorem dX8_following_31 : decode cX8_following 31 = .ok (.if_icmp .ne 13, 3) := by decide +kernel
theorem dX8_following_34 : decode cX8_following 34 = .ok (.aload_n 0, 1) := by decide +kernel
theorem dX8_following_35 : decode cX8_following 35 = .ok (.getfield 44, 3) := by decide +kernel
theorem dX8_following_38 : decode cX8_following 38 = .ok (.iload_n 2, 1) := by decide +kernel
theorem dX8_following_39 : decode cX8_following 39 = .ok (.iaload, 1) := by decide +kernel
theorem dX8_following_40 : decode cX8_following 40 = .ok (.istore_n 2, 1) := by decide +kernel
theorem dX8_following_41 : decode cX8_following 41 = .ok (.goto (-22), 3) := by decide +kernel
theorem dX8_following_44 : decode cX8_following 44 = .ok (.iload_n 2, 1) := by decide +kernel
theorem dX8_following_45 : decode cX8_following 45 = .ok (.iconst (-1), 1) := by decide +kernel
theorem dX8_following_46 : decode cX8_following 46 = .ok (.if_icmp .ne 7, 3) := by decide +kernel
theorem dX8_following_49 : decode cX8_following 49 = .ok (.iconst (-1), 1) := by decide +kernel
theorem dX8_following_50 : decode cX8_following 50 = .ok (.goto 9, 3) := by decide +kernel
theorem dX8_following_53 : decode cX8_following 53 = .ok (.aload_n 0, 1) := by decide +kernel
theorem dX8_following_54 : decode cX8_following 54 = .ok (.getfield 53, 3) := by decide +kernel
theorem dX8_following_57 : decode cX8_following 57 = .ok (.iload_n 2, 1) := by decide +kernel
theorem dX8_following_58 : decode cX8_following 58 = .ok (.iaload, 1) := by decide +kernel
theorem dX8_following_59 : decode cX8_following 59 = .ok (.ireturn, 1) := by decide +kernel

theorem dX8_number_0 : decode cX8_number 0 = .ok (.aload_n 0, 1) := by decide +kernel
theorem dX8_number_1 : decode cX8_number 1 = .ok (.iconst 0, 1) := by decide +kernel
theorem dX8_number_2 : decode cX8_number 2 = .ok (.putfield 428, 3) := by decide +kernel
theorem dX8_number_5 : decode cX8_number 5 = .ok (.iconst 0, 1) := by decide +kernel
theorem dX8_number_6 : decode cX8_number 6 = .ok (.istore_n 1, 1) := by decide +kernel
theorem dX8_number_7 : decode cX8_number 7 = .ok (.iload_n 1, 1) := by decide +kernel
theorem dX8_number_8 : decode cX8_number 8 = .ok (.iconst (-1), 1) := by decide +kernel
theorem dX8_number_9 : decode cX8_number 9 = .ok (.if_icmp .eq 42, 3) := by decide +kernel
theorem dX8_number_12 : decode cX8_number 12 = .ok (.aload_n 0, 1) := by decide +kernel
theorem dX8_number_13 : decode cX8_number 13 = .ok (.getfield 71, 3) := by decide +kernel
theorem dX8_number_16 : decode cX8_number 16 = .ok (.aload_n 0, 1) := by decide +kernel
theorem dX8_number_17 : decode cX8_number 17 = .ok (.getfield 428, 3) := by decide +kernel
theorem dX8_number_20 : decode cX8_number 20 = .ok (.iload_n 1, 1) := by decide +kernel
theorem dX8_number_21 : decode cX8_number 21 = .ok (.iastore, 1) := by decide +kernel
theorem dX8_number_22 : decode cX8_number 22 = .ok (.aload_n 0, 1) := by decide +kernel
theorem dX8_number_23 : decode cX8_number 23 = .ok (.getfield 74, 3) := by decide +kernel
theorem dX8_number_26 : decode cX8_number 26 = .ok (.iload_n 1, 1) := by decide +kernel
theorem dX8_number_27 : decode cX8_number 27 = .ok (.aload_n 0, 1) := by decide +kernel
theorem dX8_number_28 : decode cX8_number 28 = .ok (.getfield 428, 3) := by decide +kernel
theorem dX8_number_31 : decode cX8_number 31 = .ok (.iastore, 1) := by decide +kernel
theorem dX8_number_32 : decode cX8_number 32 = .ok (.aload_n 0, 1) := by decide +kernel
theorem dX8_number_33 : decode cX8_number 33 = .ok (.dup, 1) := by decide +kernel
theorem dX8_number_34 : decode cX8_number 34 = .ok (.getfield 428, 3) := by decide +kernel
theorem dX8_number_37 : decode cX8_number 37 = .ok (.iconst 1, 1) := by decide +kernel
theorem dX8_number_38 : decode cX8_number 38 = .ok (.iadd, 1) := by decide +kernel
theorem dX8_number_39 : decode cX8_number 39 = .ok (.putfield 428, 3) := by decide +kernel
theorem dX8_number_42 : decode cX8_number 42 = .ok (.aload_n 0, 1) := by decide +kernel
theorem dX8_number_43 : decode cX8_number 43 = .ok (.iload_n 1, 1) := by decide +kernel
theorem dX8_number_44 : decode cX8_number 44 = .ok (.invokevirtual 431, 3) := by decide +kernel
theorem dX8_number_47 : decode cX8_number 47 = .ok (.istore_n 1, 1) := by decide +kernel
theorem dX8_number_48 : decode cX8_number 48 = .ok (.goto (-41), 3) := by decide +kernel
theorem dX8_number_51 : decode cX8_number 51 = .ok (.return_, 1) := by decide +kernel

theorem dX8_read_0 : decode cX8_read 0 = .ok (.aload_n 0, 1) := by decide +kernel
theorem dX8_read_1 : decode cX8_read 1 = .ok (.iconst 0, 1) := by decide +kernel
theorem dX8_read_2 : decode cX8_read 2 = .ok (.putfield 100, 3) := by decide +kernel
theorem dX8_read_5 : decode cX8_read 5 = .ok (.aload_n 0, 1) := by decide +kernel
theorem dX8_read_6 : decode cX8_read 6 = .ok (.iconst (-1), 1) := by decide +kernel
theorem dX8_read_7 : decode cX8_read 7 = .ok (.putfield 25, 3) := by decide +kernel
theorem dX8_read_10 : decode cX8_read 10 = .ok (.aload_n 0, 1) := by decide +kernel
theorem dX8_read_11 : decode cX8_read 11 = .ok (.iconst 0, 1) := by decide +kernel
theorem dX8_read_12 : decode cX8_read 12 = .ok (.putfield 113, 3) := by decide +kernel
theorem dX8_read_15 : decode cX8_read 15 = .ok (.aload_n 0, 1) := by decide +kernel
theorem dX8_read_16 : decode cX8_read 16 = .ok (.getfield 29, 3) := by decide +kernel
theorem dX8_read_19 : decode cX8_read 19 = .ok (.iconst 0, 1) := by decide +kernel
theorem dX8_read_20 : decode cX8_read 20 = .ok (.iconst 0, 1) := by decide +kernel
theorem dX8_read_21 : decode cX8_read 21 = .ok (.iastore, 1) := by decide +kernel
theorem dX8_read_22 : decode cX8_read 22 = .ok (.aload_n 0, 1) := by decide +kernel
theorem dX8_read_23 : decode cX8_read 23 = .ok (.iconst 0, 1) := by decide +kernel
theorem dX8_read_24 : decode cX8_read 24 = .ok (.putfield 185, 3) := by decide +kernel
theorem dX8_read_27 : decode cX8_read 27 = .ok (.aload_n 0, 1) := by decide +kernel
theorem dX8_read_28 : decode cX8_read 28 = .ok (.iconst 0, 1) := by decide +kernel
theorem dX8_read_29 : decode cX8_read 29 = .ok (.putfield 428, 3) := by decide +kernel
theorem dX8_read_32 : decode cX8_read 32 = .ok (.aload_n 0, 1) := by decide +kernel
theorem dX8_read_33 : decode cX8_read 33 = .ok (.iconst 0, 1) := by decide +kernel
theorem dX8_read_34 : decode cX8_read 34 = .ok (.putfield 198, 3) := by decide +kernel
theorem dX8_read_37 : decode cX8_read 37 = .ok (.aload_n 0, 1) := by decide +kernel
theorem dX8_read_38 : decode cX8_read 38 = .ok (.iconst 0, 1) := by decide +kernel
theorem dX8_read_39 : decode cX8_read 39 = .ok (.putfield 214, 3) := by decide +kernel
theorem dX8_read_42 : decode cX8_read 42 = .ok (.aload_n 0, 1) := by decide +kernel
theorem dX8_read_43 : decode cX8_read 43 = .ok (.iconst 0, 1) := by decide +kernel
theorem dX8_read_44 : decode cX8_read 44 = .ok (.putfield 308, 3) := by decide +kernel
theorem dX8_read_47 : decode cX8_read 47 = .ok (.aload_n 0, 1) := by decide +kernel
theorem dX8_read_48 : decode cX8_read 48 = .ok (.iconst 0, 1) := by decide +kernel
theorem dX8_read_49 : decode cX8_read 49 = .ok (.putfield 274, 3) := by decide +kernel
theorem dX8_read_52 : decode cX8_read 52 = .ok (.aload_n 0, 1) := by decide +kernel
theorem dX8_read_53 : decode cX8_read 53 = .ok (.iconst 0, 1) := by decide +kernel
theorem dX8_read_54 : decode cX8_read 54 = .ok (.putfield 268, 3) := by decide +kernel
theorem dX8_read_57 : decode cX8_read 57 = .ok (.aload_n 0, 1) := by decide +kernel
theorem dX8_read_58 : decode cX8_read 58 = .ok (.iconst 0, 1) := by decide +kernel
theorem dX8_read_59 : decode cX8_read 59 = .ok (.putfield 271, 3) := by decide +kernel
theorem dX8_read_62 : decode cX8_read 62 = .ok (.aload_n 0, 1) := by decide +kernel
theorem dX8_read_63 : decode cX8_read 63 = .ok (.iconst 0, 1) := by decide +kernel
theorem dX8_read_64 : decode cX8_read 64 = .ok (.putfield 293, 3) := by decide +kernel
theorem dX8_read_67 : decode cX8_read 67 = .ok (.aload_n 0, 1) := by decide +kernel
theorem dX8_read_68 : decode cX8_read 68 = .ok (.iconst 0, 1) := by decide +kernel
theorem dX8_read_69 : decode cX8_read 69 = .ok (.putfield 119, 3) := by decide +kernel
theorem dX8_read_72 : decode cX8_read 72 = .ok (.aload_n 0, 1) := by decide +kernel
theorem dX8_read_73 : decode cX8_read 73 = .ok (.iconst 0, 1) := by decide +kernel
theorem dX8_read_74 : decode cX8_read 74 = .ok (.putfield 103, 3) := by decide +kernel
theorem dX8_read_77 : decode cX8_read 77 = .ok (.aload_n 0, 1) := by decide +kernel
theorem dX8_read_78 : decode cX8_read 78 = .ok (.aload_n 0, 1) := by decide +kernel
theorem dX8_read_79 : decode cX8_read 79 = .ok (.iconst 0, 1) := by decide +kernel
theorem dX8_read_80 : decode cX8_read 80 = .ok (.iconst 0, 1) := by decide +kernel
theorem dX8_read_81 : decode cX8_read 81 = .ok (.iconst 0, 1) := by decide +kernel
theorem dX8_read_82 : decode cX8_read 82 = .ok (.invokevirtual 188, 3) := by decide +kernel
theorem dX8_read_85 : decode cX8_read 85 = .ok (.putfield 192, 3) := by decide +kernel
theorem dX8_read_88 : decode cX8_read 88 = .ok (.aload_n 0, 1) := by decide +kernel
theorem dX8_read_89 : decode cX8_read 89 = .ok (.bipush 100, 2) := by decide +kernel
theorem dX8_read_91 : decode cX8_read 91 = .ok (.invokevirtual 201, 3) := by decide +kernel
theorem dX8_read_94 : decode cX8_read 94 = .ok (.aload_n 0, 1) := by decide +kernel
theorem dX8_read_95 : decode cX8_read 95 = .ok (.invokevirtual 208, 3) := by decide +kernel
theorem dX8_read_98 : decode cX8_read 98 = .ok (.aload_n 0, 1) := by decide +kernel
theorem dX8_read_99 : decode cX8_read 99 = .ok (.getfield 100, 3) := by decide +kernel
theorem dX8_read_102 : decode cX8_read 102 = .ok (.ifCond .ne 36, 3) := by decide +kernel
theorem dX8_read_105 : decode cX8_read 105 = .ok (.aload_n 0, 1) := by decide +kernel
theorem dX8_read_106 : decode cX8_read 106 = .ok (.getfield 198, 3) := by decide +kernel
theorem dX8_read_109 : decode cX8_read 109 = .ok (.ifCond .le 29, 3) := by decide +kernel
theorem dX8_read_112 : decode cX8_read 112 = .ok (.aload_n 0, 1) := by decide +kernel
theorem dX8_read_113 : decode cX8_read 113 = .ok (.dup, 1) := by decide +kernel
theorem dX8_read_114 : decode cX8_read 114 = .ok (.getfield 198, 3) := by decide +kernel
theorem dX8_read_117 : decode cX8_read 117 = .ok (.iconst 1, 1) := by decide +kernel
theorem dX8_read_118 : decode cX8_read 118 = .ok (.isub, 1) := by decide +kernel
theorem dX8_read_119 : decode cX8_read 119 = .ok (.putfield 198, 3) := by decide +kernel
theorem dX8_read_122 : decode cX8_read 122 = .ok (.aload_n 0, 1) := by decide +kernel
theorem dX8_read_123 : decode cX8_read 123 = .ok (.aload_n 0, 1) := by decide +kernel
theorem dX8_read_124 : decode cX8_read 124 = .ok (.getfield 56, 3) := by decide +kernel
theorem dX8_read_127 : decode cX8_read 127 = .ok (.aload_n 0, 1) := by decide +kernel
theorem dX8_read_128 : decode cX8_read 128 = .ok (.getfield 198, 3) := by decide +kernel
theorem dX8_read_131 : decode cX8_read 131 = .ok (.iaload, 1) := by decide +kernel
theorem dX8_read_132 : decode cX8_read 132 = .ok (.invokevirtual 434, 3) := by decide +kernel
theorem dX8_read_135 : decode cX8_read 135 = .ok (.goto (-37), 3) := by decide +kernel
theorem dX8_read_138 : decode cX8_read 138 = .ok (.aload_n 0, 1) := by decide +kernel
theorem dX8_read_139 : decode cX8_read 139 = .ok (.getfield 100, 3) := by decide +kernel
theorem dX8_read_142 : decode cX8_read 142 = .ok (.ifCond .ne 10, 3) := by decide +kernel
theorem dX8_read_145 : decode cX8_read 145 = .ok (.aload_n 0, 1) := by decide +kernel
theorem dX8_read_146 : decode cX8_read 146 = .ok (.invokevirtual 437, 3) := by decide +kernel
theorem dX8_read_149 : decode cX8_read 149 = .ok (.goto 8, 3) := by decide +kernel
theorem dX8_read_152 : decode cX8_read 152 = .ok (.aload_n 0, 1) := by decide +kernel
theorem dX8_read_153 : decode cX8_read 153 = .ok (.iconst 0, 1) := by decide +kernel
theorem dX8_read_154 : decode cX8_read 154 = .ok (.putfield 113, 3) := by decide +kernel
theorem dX8_read_157 : decode cX8_read 157 = .ok (.aload_n 0, 1) := by decide +kernel
theorem dX8_read_158 : decode cX8_read 158 = .ok (.getfield 100, 3) := by decide +kernel
theorem dX8_read_161 : decode cX8_read 161 = .ok (.ireturn, 1) := by decide +kernel
