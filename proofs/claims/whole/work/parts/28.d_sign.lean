theorem dX7_binding_0 : decode cX7_binding 0 = .ok (.iload_n 0, 1) := by decide +kernel
theorem dX7_binding_1 : decode cX7_binding 1 = .ok (.ifCond .lt 19, 3) := by decide +kernel
theorem dX7_binding_4 : decode cX7_binding 4 = .ok (.iload_n 0, 1) := by decide +kernel
theorem dX7_binding_5 : decode cX7_binding 5 = .ok (.getstatic 15, 3) := by decide +kernel
theorem dX7_binding_8 : decode cX7_binding 8 = .ok (.arraylength, 1) := by decide +kernel
theorem dX7_binding_9 : decode cX7_binding 9 = .ok (.if_icmp .ge 11, 3) := by decide +kernel
theorem dX7_binding_12 : decode cX7_binding 12 = .ok (.getstatic 15, 3) := by decide +kernel
theorem dX7_binding_15 : decode cX7_binding 15 = .ok (.iload_n 0, 1) := by decide +kernel
theorem dX7_binding_16 : decode cX7_binding 16 = .ok (.iaload, 1) := by decide +kernel
theorem dX7_binding_17 : decode cX7_binding 17 = .ok (.goto 4, 3) := by decide +kernel
theorem dX7_binding_20 : decode cX7_binding 20 = .ok (.iconst (-1), 1) := by decide +kernel
theorem dX7_binding_21 : decode cX7_binding 21 = .ok (.ireturn, 1) := by decide +kernel

theorem dX7_operation_0 : decode cX7_operation 0 = .ok (.iload_n 0, 1) := by decide +kernel
theorem dX7_operation_1 : decode cX7_operation 1 = .ok (.lookupswitch 169 #[(38, 137), (42, 160), (43, 154), (45, 157), (47, 163), (60, 143), (61, 139), (62, 145), (286, 131), (287, 133), (288, 135), (289, 166), (15421, 148), (15422, 141), (15933, 151)], 131) := by decide +kernel
theorem dX7_operation_132 : decode cX7_operation 132 = .ok (.iconst 0, 1) := by decide +kernel
theorem dX7_operation_133 : decode cX7_operation 133 = .ok (.ireturn, 1) := by decide +kernel
theorem dX7_operation_134 : decode cX7_operation 134 = .ok (.iconst 1, 1) := by decide +kernel
theorem dX7_operation_135 : decode cX7_operation 135 = .ok (.ireturn, 1) := by decide +kernel
theorem dX7_operation_136 : decode cX7_operation 136 = .ok (.iconst 2, 1) := by decide +kernel
theorem dX7_operation_137 : decode cX7_operation 137 = .ok (.ireturn, 1) := by decide +kernel
theorem dX7_operation_138 : decode cX7_operation 138 = .ok (.iconst 2, 1) := by decide +kernel
theorem dX7_operation_139 : decode cX7_operation 139 = .ok (.ireturn, 1) := by decide +kernel
theorem dX7_operation_140 : decode cX7_operation 140 = .ok (.iconst 3, 1) := by decide +kernel
theorem dX7_operation_141 : decode cX7_operation 141 = .ok (.ireturn, 1) := by decide +kernel
theorem dX7_operation_142 : decode cX7_operation 142 = .ok (.iconst 4, 1) := by decide +kernel
theorem dX7_operation_143 : decode cX7_operation 143 = .ok (.ireturn, 1) := by decide +kernel
theorem dX7_operation_144 : decode cX7_operation 144 = .ok (.iconst 5, 1) := by decide +kernel
theorem dX7_operation_145 : decode cX7_operation 145 = .ok (.ireturn, 1) := by decide +kernel
theorem dX7_operation_146 : decode cX7_operation 146 = .ok (.bipush 6, 2) := by decide +kernel
theorem dX7_operation_148 : decode cX7_operation 148 = .ok (.ireturn, 1) := by decide +kernel
theorem dX7_operation_149 : decode cX7_operation 149 = .ok (.bipush 7, 2) := by decide +kernel
theorem dX7_operation_151 : decode cX7_operation 151 = .ok (.ireturn, 1) := by decide +kernel
theorem dX7_operation_152 : decode cX7_operation 152 = .ok (.bipush 8, 2) := by decide +kernel
theorem dX7_operation_154 : decode cX7_operation 154 = .ok (.ireturn, 1) := by decide +kernel
theorem dX7_operation_155 : decode cX7_operation 155 = .ok (.bipush 9, 2) := by decide +kernel
theorem dX7_operation_157 : decode cX7_operation 157 = .ok (.ireturn, 1) := by decide +kernel
theorem dX7_operation_158 : decode cX7_operation 158 = .ok (.bipush 10, 2) := by decide +kernel
theorem dX7_operation_160 : decode cX7_operation 160 = .ok (.ireturn, 1) := by decide +kernel
theorem dX7_operation_161 : decode cX7_operation 161 = .ok (.bipush 11, 2) := by decide +kernel
theorem dX7_operation_163 : decode cX7_operation 163 = .ok (.ireturn, 1) := by decide +kernel
theorem dX7_operation_164 : decode cX7_operation 164 = .ok (.bipush 12, 2) := by decide +kernel
theorem dX7_operation_166 : decode cX7_operation 166 = .ok (.ireturn, 1) := by decide +kernel
theorem dX7_operation_167 : decode cX7_operation 167 = .ok (.bipush 13, 2) := by decide +kernel
theorem dX7_operation_169 : decode cX7_operation 169 = .ok (.ireturn, 1) := by decide +kernel
theorem dX7_operation_170 : decode cX7_operation 170 = .ok (.iconst (-1), 1) := by decide +kernel
theorem dX7_operation_171 : decode cX7_operation 171 = .ok (.ireturn, 1) := by decide +kernel

theorem dX7_between_0 : decode cX7_between 0 = .ok (.iload_n 0, 1) := by decide +kernel
theorem dX7_between_1 : decode cX7_between 1 = .ok (.ifCond .lt 19, 3) := by decide +kernel
theorem dX7_between_4 : decode cX7_between 4 = .ok (.iload_n 0, 1) := by decide +kernel
theorem dX7_between_5 : decode cX7_between 5 = .ok (.getstatic 9, 3) := by decide +kernel
theorem dX7_between_8 : decode cX7_between 8 = .ok (.arraylength, 1) := by decide +kernel
theorem dX7_between_9 : decode cX7_between 9 = .ok (.if_icmp .ge 11, 3) := by decide +kernel
theorem dX7_between_12 : decode cX7_between 12 = .ok (.getstatic 9, 3) := by decide +kernel
theorem dX7_between_15 : decode cX7_between 15 = .ok (.iload_n 0, 1) := by decide +kernel
theorem dX7_between_16 : decode cX7_between 16 = .ok (.iaload, 1) := by decide +kernel
theorem dX7_between_17 : decode cX7_between 17 = .ok (.goto 4, 3) := by decide +kernel
theorem dX7_between_20 : decode cX7_between 20 = .ok (.iconst (-1), 1) := by decide +kernel
theorem dX7_between_21 : decode cX7_between 21 = .ok (.ireturn, 1) := by decide +kernel
