theorem dX6_great_0 : decode cX6_great 0 = .ok (.iload_n 0, 1) := by decide +kernel
theorem dX6_great_1 : decode cX6_great 1 = .ok (.bipush 97, 2) := by decide +kernel
theorem dX6_great_3 : decode cX6_great 3 = .ok (.if_icmp .lt 19, 3) := by decide +kernel
theorem dX6_great_6 : decode cX6_great 6 = .ok (.iload_n 0, 1) := by decide +kernel
theorem dX6_great_7 : decode cX6_great 7 = .ok (.bipush 122, 2) := by decide +kernel
theorem dX6_great_9 : decode cX6_great 9 = .ok (.if_icmp .gt 13, 3) := by decide +kernel
theorem dX6_great_12 : decode cX6_great 12 = .ok (.iload_n 0, 1) := by decide +kernel
theorem dX6_great_13 : decode cX6_great 13 = .ok (.bipush 97, 2) := by decide +kernel
theorem dX6_great_15 : decode cX6_great 15 = .ok (.isub, 1) := by decide +kernel
theorem dX6_great_16 : decode cX6_great 16 = .ok (.bipush 65, 2) := by decide +kernel
theorem dX6_great_18 : decode cX6_great 18 = .ok (.iadd, 1) := by decide +kernel
theorem dX6_great_19 : decode cX6_great 19 = .ok (.goto 4, 3) := by decide +kernel
theorem dX6_great_22 : decode cX6_great 22 = .ok (.iload_n 0, 1) := by decide +kernel
theorem dX6_great_23 : decode cX6_great 23 = .ok (.ireturn, 1) := by decide +kernel

theorem dX6_isDigit_0 : decode cX6_isDigit 0 = .ok (.iload_n 0, 1) := by decide +kernel
theorem dX6_isDigit_1 : decode cX6_isDigit 1 = .ok (.bipush 48, 2) := by decide +kernel
theorem dX6_isDigit_3 : decode cX6_isDigit 3 = .ok (.if_icmp .lt 13, 3) := by decide +kernel
theorem dX6_isDigit_6 : decode cX6_isDigit 6 = .ok (.iload_n 0, 1) := by decide +kernel
theorem dX6_isDigit_7 : decode cX6_isDigit 7 = .ok (.bipush 57, 2) := by decide +kernel
theorem dX6_isDigit_9 : decode cX6_isDigit 9 = .ok (.if_icmp .gt 7, 3) := by decide +kernel
theorem dX6_isDigit_12 : decode cX6_isDigit 12 = .ok (.iconst 1, 1) := by decide +kernel
theorem dX6_isDigit_13 : decode cX6_isDigit 13 = .ok (.goto 4, 3) := by decide +kernel
theorem dX6_isDigit_16 : decode cX6_isDigit 16 = .ok (.iconst 0, 1) := by decide +kernel
theorem dX6_isDigit_17 : decode cX6_isDigit 17 = .ok (.ireturn, 1) := by decide +kernel

theorem dX6_isNameByte_0 : decode cX6_isNameByte 0 = .ok (.iload_n 0, 1) := by decide +kernel
theorem dX6_isNameByte_1 : decode cX6_isNameByte 1 = .ok (.bipush 65, 2) := by decide +kernel
theorem dX6_isNameByte_3 : decode cX6_isNameByte 3 = .ok (.if_icmp .lt 9, 3) := by decide +kernel
theorem dX6_isNameByte_6 : decode cX6_isNameByte 6 = .ok (.iload_n 0, 1) := by decide +kernel
theorem dX6_isNameByte_7 : decode cX6_isNameByte 7 = .ok (.bipush 90, 2) := by decide +kernel
theorem dX6_isNameByte_9 : decode cX6_isNameByte 9 = .ok (.if_icmp .le 33, 3) := by decide +kernel
theorem dX6_isNameByte_12 : decode cX6_isNameByte 12 = .ok (.iload_n 0, 1) := by decide +kernel
theorem dX6_isNameByte_13 : decode cX6_isNameByte 13 = .ok (.bipush 97, 2) := by decide +kernel
theorem dX6_isNameByte_15 : decode cX6_isNameByte 15 = .ok (.if_icmp .lt 9, 3) := by decide +kernel
theorem dX6_isNameByte_18 : decode cX6_isNameByte 18 = .ok (.iload_n 0, 1) := by decide +kernel
theorem dX6_isNameByte_19 : decode cX6_isNameByte 19 = .ok (.bipush 122, 2) := by decide +kernel
theorem dX6_isNameByte_21 : decode cX6_isNameByte 21 = .ok (.if_icmp .le 21, 3) := by decide +kernel
theorem dX6_isNameByte_24 : decode cX6_isNameByte 24 = .ok (.iload_n 0, 1) := by decide +kernel
theorem dX6_isNameByte_25 : decode cX6_isNameByte 25 = .ok (.bipush 48, 2) := by decide +kernel
theorem dX6_isNameByte_27 : decode cX6_isNameByte 27 = .ok (.if_icmp .lt 9, 3) := by decide +kernel
theorem dX6_isNameByte_30 : decode cX6_isNameByte 30 = .ok (.iload_n 0, 1) := by decide +kernel
theorem dX6_isNameByte_31 : decode cX6_isNameByte 31 = .ok (.bipush 57, 2) := by decide +kernel
theorem dX6_isNameByte_33 : decode cX6_isNameByte 33 = .ok (.if_icmp .le 9, 3) := by decide +kernel
theorem dX6_isNameByte_36 : decode cX6_isNameByte 36 = .ok (.iload_n 0, 1) := by decide +kernel
theorem dX6_isNameByte_37 : decode cX6_isNameByte 37 = .ok (.bipush 95, 2) := by decide +kernel
theorem dX6_isNameByte_39 : decode cX6_isNameByte 39 = .ok (.if_icmp .ne 7, 3) := by decide +kernel
theorem dX6_isNameByte_42 : decode cX6_isNameByte 42 = .ok (.iconst 1, 1) := by decide +kernel
theorem dX6_isNameByte_43 : decode cX6_isNameByte 43 = .ok (.goto 4, 3) := by decide +kernel
theorem dX6_isNameByte_46 : decode cX6_isNameByte 46 = .ok (.iconst 0, 1) := by decide +kernel
theorem dX6_isNameByte_47 : decode cX6_isNameByte 47 = .ok (.ireturn, 1) := by decide +kernel
