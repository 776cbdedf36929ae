theorem dX1_forget_0 : decode cX1_forget 0 = .ok (.bipush 41, 2) := by decide +kernel
theorem dX1_forget_2 : decode cX1_forget 2 = .ok (.istore_n 1, 1) := by decide +kernel
theorem dX1_forget_3 : decode cX1_forget 3 = .ok (.iload_n 1, 1) := by decide +kernel
theorem dX1_forget_4 : decode cX1_forget 4 = .ok (.aload_n 0, 1) := by decide +kernel
theorem dX1_forget_5 : decode cX1_forget 5 = .ok (.getfield 59, 3) := by decide +kernel
theorem dX1_forget_8 : decode cX1_forget 8 = .ok (.if_icmp .ge 41, 3) := by decide +kernel
theorem dX1_forget_11 : decode cX1_forget 11 = .ok (.iload_n 1, 1) := by decide +kernel
theorem dX1_forget_12 : decode cX1_forget 12 = .ok (.sipush 4137, 3) := by decide +kernel
theorem dX1_forget_15 : decode cX1_forget 15 = .ok (.if_icmp .ge 34, 3) := by decide +kernel
theorem dX1_forget_18 : decode cX1_forget 18 = .ok (.aload_n 0, 1) := by decide +kernel
theorem dX1_forget_19 : decode cX1_forget 19 = .ok (.getfield 20, 3) := by decide +kernel
theorem dX1_forget_22 : decode cX1_forget 22 = .ok (.iload_n 1, 1) := by decide +kernel
theorem dX1_forget_23 : decode cX1_forget 23 = .ok (.iaload, 1) := by decide +kernel
theorem dX1_forget_24 : decode cX1_forget 24 = .ok (.istore_n 2, 1) := by decide +kernel
theorem dX1_forget_25 : decode cX1_forget 25 = .ok (.iload_n 2, 1) := by decide +kernel
theorem dX1_forget_26 : decode cX1_forget 26 = .ok (.ifCond .lt 17, 3) := by decide +kernel
theorem dX1_forget_29 : decode cX1_forget 29 = .ok (.iload_n 2, 1) := by decide +kernel
theorem dX1_forget_30 : decode cX1_forget 30 = .ok (.sipush 8192, 3) := by decide +kernel
theorem dX1_forget_33 : decode cX1_forget 33 = .ok (.if_icmp .ge 10, 3) := by decide +kernel
theorem dX1_forget_36 : decode cX1_forget 36 = .ok (.aload_n 0, 1) := by decide +kernel
theorem dX1_forget_37 : decode cX1_forget 37 = .ok (.getfield 23, 3) := by decide +kernel
theorem dX1_forget_40 : decode cX1_forget 40 = .ok (.iload_n 2, 1) := by decide +kernel
theorem dX1_forget_41 : decode cX1_forget 41 = .ok (.iconst 0, 1) := by decide +kernel
theorem dX1_forget_42 : decode cX1_forget 42 = .ok (.iastore, 1) := by decide +kernel
theorem dX1_forget_43 : decode cX1_forget 43 = .ok (.iinc 1 1, 3) := by decide +kernel
theorem dX1_forget_46 : decode cX1_forget 46 = .ok (.goto (-43), 3) := by decide +kernel
theorem dX1_forget_49 : decode cX1_forget 49 = .ok (.aload_n 0, 1) := by decide +kernel
theorem dX1_forget_50 : decode cX1_forget 50 = .ok (.bipush 41, 2) := by decide +kernel
theorem dX1_forget_52 : decode cX1_forget 52 = .ok (.putfield 59, 3) := by decide +kernel
theorem dX1_forget_55 : decode cX1_forget 55 = .ok (.aload_n 0, 1) := by decide +kernel
theorem dX1_forget_56 : decode cX1_forget 56 = .ok (.aload_n 0, 1) := by decide +kernel
theorem dX1_forget_57 : decode cX1_forget 57 = .ok (.getfield 17, 3) := by decide +kernel
theorem dX1_forget_60 : decode cX1_forget 60 = .ok (.bipush 41, 2) := by decide +kernel
theorem dX1_forget_62 : decode cX1_forget 62 = .ok (.iaload, 1) := by decide +kernel
theorem dX1_forget_63 : decode cX1_forget 63 = .ok (.putfield 63, 3) := by decide +kernel
theorem dX1_forget_66 : decode cX1_forget 66 = .ok (.return_, 1) := by decide +kernel

theorem dX1_addLetter_0 : decode cX1_addLetter 0 = .ok (.aload_n 0, 1) := by decide +kernel
theorem dX1_addLetter_1 : decode cX1_addLetter 1 = .ok (.getfield 63, 3) := by decide +kernel
theorem dX1_addLetter_4 : decode cX1_addLetter 4 = .ok (.ifCond .lt 38, 3) := by decide +kernel
theorem dX1_addLetter_7 : decode cX1_addLetter 7 = .ok (.aload_n 0, 1) := by decide +kernel
theorem dX1_addLetter_8 : decode cX1_addLetter 8 = .ok (.getfield 63, 3) := by decide +kernel
theorem dX1_addLetter_11 : decode cX1_addLetter 11 = .ok (.aload_n 0, 1) := by decide +kernel
theorem dX1_addLetter_12 : decode cX1_addLetter 12 = .ok (.getfield 11, 3) := by decide +kernel
theorem dX1_addLetter_15 : decode cX1_addLetter 15 = .ok (.arraylength, 1) := by decide +kernel
theorem dX1_addLetter_16 : decode cX1_addLetter 16 = .ok (.if_icmp .ge 26, 3) := by decide +kernel
theorem dX1_addLetter_19 : decode cX1_addLetter 19 = .ok (.aload_n 0, 1) := by decide +kernel
theorem dX1_addLetter_20 : decode cX1_addLetter 20 = .ok (.getfield 11, 3) := by decide +kernel
theorem dX1_addLetter_23 : decode cX1_addLetter 23 = .ok (.aload_n 0, 1) := by decide +kernel
theorem dX1_addLetter_24 : decode cX1_addLetter 24 = .ok (.getfield 63, 3) := by decide +kernel
theorem dX1_addLetter_27 : decode cX1_addLetter 27 = .ok (.iload_n 1, 1) := by decide +kernel
theorem dX1_addLetter_28 : decode cX1_addLetter 28 = .ok (.invokestatic 66, 3) := by decide +kernel
theorem dX1_addLetter_31 : decode cX1_addLetter 31 = .ok (.iastore, 1) := by decide +kernel
theorem dX1_addLetter_32 : decode cX1_addLetter 32 = .ok (.aload_n 0, 1) := by decide +kernel
theorem dX1_addLetter_33 : decode cX1_addLetter 33 = .ok (.dup, 1) := by decide +kernel
theorem dX1_addLetter_34 : decode cX1_addLetter 34 = .ok (.getfield 63, 3) := by decide +kernel
theorem dX1_addLetter_37 : decode cX1_addLetter 37 = .ok (.iconst 1, 1) := by decide +kernel
theorem dX1_addLetter_38 : decode cX1_addLetter 38 = .ok (.iadd, 1) := by decide +kernel
theorem dX1_addLetter_39 : decode cX1_addLetter 39 = .ok (.putfield 63, 3) := by decide +kernel
theorem dX1_addLetter_42 : decode cX1_addLetter 42 = .ok (.return_, 1) := by decide +kernel

theorem dX1_startOf_0 : decode cX1_startOf 0 = .ok (.iload_n 1, 1) := by decide +kernel
theorem dX1_startOf_1 : decode cX1_startOf 1 = .ok (.ifCond .lt 19, 3) := by decide +kernel
theorem dX1_startOf_4 : decode cX1_startOf 4 = .ok (.iload_n 1, 1) := by decide +kernel
theorem dX1_startOf_5 : decode cX1_startOf 5 = .ok (.sipush 4137, 3) := by decide +kernel
theorem dX1_startOf_8 : decode cX1_startOf 8 = .ok (.if_icmp .gt 12, 3) := by decide +kernel
theorem dX1_startOf_11 : decode cX1_startOf 11 = .ok (.aload_n 0, 1) := by decide +kernel
theorem dX1_startOf_12 : decode cX1_startOf 12 = .ok (.getfield 17, 3) := by decide +kernel
theorem dX1_startOf_15 : decode cX1_startOf 15 = .ok (.iload_n 1, 1) := by decide +kernel
theorem dX1_startOf_16 : decode cX1_startOf 16 = .ok (.iaload, 1) := by decide +kernel
theorem dX1_startOf_17 : decode cX1_startOf 17 = .ok (.goto 4, 3) := by decide +kernel
theorem dX1_startOf_20 : decode cX1_startOf 20 = .ok (.iconst 0, 1) := by decide +kernel
theorem dX1_startOf_21 : decode cX1_startOf 21 = .ok (.ireturn, 1) := by decide +kernel

theorem dX1_firstSlot_0 : decode cX1_firstSlot 0 = .ok (.iconst 0, 1) := by decide +kernel
theorem dX1_firstSlot_1 : decode cX1_firstSlot 1 = .ok (.istore_n 1, 1) := by decide +kernel
theorem dX1_firstSlot_2 : decode cX1_firstSlot 2 = .ok (.aload_n 0, 1) := by decide +kernel
theorem dX1_firstSlot_3 : decode cX1_firstSlot 3 = .ok (.aload_n 0, 1) := by decide +kernel
theorem dX1_firstSlot_4 : decode cX1_firstSlot 4 = .ok (.getfield 59, 3) := by decide +kernel
theorem dX1_firstSlot_7 : decode cX1_firstSlot 7 = .ok (.invokevirtual 80, 3) := by decide +kernel
theorem dX1_firstSlot_10 : decode cX1_firstSlot 10 = .ok (.istore_n 2, 1) := by decide +kernel
theorem dX1_firstSlot_11 : decode cX1_firstSlot 11 = .ok (.iload_n 2, 1) := by decide +kernel
theorem dX1_firstSlot_12 : decode cX1_firstSlot 12 = .ok (.aload_n 0, 1) := by decide +kernel
theorem dX1_firstSlot_13 : decode cX1_firstSlot 13 = .ok (.getfield 63, 3) := by decide +kernel
theorem dX1_firstSlot_16 : decode cX1_firstSlot 16 = .ok (.if_icmp .ge 30, 3) := by decide +kernel
theorem dX1_firstSlot_19 : decode cX1_firstSlot 19 = .ok (.iload_n 2, 1) := by decide +kernel
theorem dX1_firstSlot_20 : decode cX1_firstSlot 20 = .ok (.aload_n 0, 1) := by decide +kernel
theorem dX1_firstSlot_21 : decode cX1_firstSlot 21 = .ok (.getfield 11, 3) := by decide +kernel
theorem dX1_firstSlot_24 : decode cX1_firstSlot 24 = .ok (.arraylength, 1) := by decide +kernel
theorem dX1_firstSlot_25 : decode cX1_firstSlot 25 = .ok (.if_icmp .ge 21, 3) := by decide +kernel
theorem dX1_firstSlot_28 : decode cX1_firstSlot 28 = .ok (.bipush 31, 2) := by decide +kernel
theorem dX1_firstSlot_30 : decode cX1_firstSlot 30 = .ok (.iload_n 1, 1) := by decide +kernel
theorem dX1_firstSlot_31 : decode cX1_firstSlot 31 = .ok (.imul, 1) := by decide +kernel
theorem dX1_firstSlot_32 : decode cX1_firstSlot 32 = .ok (.aload_n 0, 1) := by decide +kernel
theorem dX1_firstSlot_33 : decode cX1_firstSlot 33 = .ok (.getfield 11, 3) := by decide +kernel
theorem dX1_firstSlot_36 : decode cX1_firstSlot 36 = .ok (.iload_n 2, 1) := by decide +kernel
theorem dX1_firstSlot_37 : decode cX1_firstSlot 37 = .ok (.iaload, 1) := by decide +kernel
theorem dX1_firstSlot_38 : decode cX1_firstSlot 38 = .ok (.iadd, 1) := by decide +kernel
theorem dX1_firstSlot_39 : decode cX1_firstSlot 39 = .ok (.istore_n 1, 1) := by decide +kernel
theorem dX1_firstSlot_40 : decode cX1_firstSlot 40 = .ok (.iinc 2 1, 3) := by decide +kernel
theorem dX1_firstSlot_43 : decode cX1_firstSlot 43 = .ok (.goto (-32), 3) := by decide +kernel
theorem dX1_firstSlot_46 : decode cX1_firstSlot 46 = .ok (.iload_n 1, 1) := by decide +kernel
theorem dX1_firstSlot_47 : decode cX1_firstSlot 47 = .ok (.sipush 8191, 3) := by decide +kernel
theorem dX1_firstSlot_50 : decode cX1_firstSlot 50 = .ok (.iand, 1) := by decide +kernel
theorem dX1_firstSlot_51 : decode cX1_firstSlot 51 = .ok (.ireturn, 1) := by decide +kernel

theorem dX1_isAddedLast_0 : decode cX1_isAddedLast 0 = .ok (.aload_n 0, 1) := by decide +kernel
theorem dX1_isAddedLast_1 : decode cX1_isAddedLast 1 = .ok (.iload_n 1, 1) := by decide +kernel
theorem dX1_isAddedLast_2 : decode cX1_isAddedLast 2 = .ok (.invokevirtual 80, 3) := by decide +kernel
theorem dX1_isAddedLast_5 : decode cX1_isAddedLast 5 = .ok (.istore_n 2, 1) := by decide +kernel
theorem dX1_isAddedLast_6 : decode cX1_isAddedLast 6 = .ok (.aload_n 0, 1) := by decide +kernel
theorem dX1_isAddedLast_7 : decode cX1_isAddedLast 7 = .ok (.aload_n 0, 1) := by decide +kernel
theorem dX1_isAddedLast_8 : decode cX1_isAddedLast 8 = .ok (.getfield 59, 3) := by decide +kernel
theorem dX1_isAddedLast_11 : decode cX1_isAddedLast 11 = .ok (.invokevirtual 80, 3) := by decide +kernel
theorem dX1_isAddedLast_14 : decode cX1_isAddedLast 14 = .ok (.istore_n 3, 1) := by decide +kernel
theorem dX1_isAddedLast_15 : decode cX1_isAddedLast 15 = .ok (.aload_n 0, 1) := by decide +kernel
theorem dX1_isAddedLast_16 : decode cX1_isAddedLast 16 = .ok (.getfield 63, 3) := by decide +kernel
theorem dX1_isAddedLast_19 : decode cX1_isAddedLast 19 = .ok (.iload_n 3, 1) := by decide +kernel
theorem dX1_isAddedLast_20 : decode cX1_isAddedLast 20 = .ok (.isub, 1) := by decide +kernel
theorem dX1_isAddedLast_21 : decode cX1_isAddedLast 21 = .ok (.istore 4, 2) := by decide +kernel
theorem dX1_isAddedLast_23 : decode cX1_isAddedLast 23 = .ok (.aload_n 0, 1) := by decide +kernel
theorem dX1_isAddedLast_24 : decode cX1_isAddedLast 24 = .ok (.iload_n 1, 1) := by decide +kernel
theorem dX1_isAddedLast_25 : decode cX1_isAddedLast 25 = .ok (.iconst 1, 1) := by decide +kernel
theorem dX1_isAddedLast_26 : decode cX1_isAddedLast 26 = .ok (.iadd, 1) := by decide +kernel
theorem dX1_isAddedLast_27 : decode cX1_isAddedLast 27 = .ok (.invokevirtual 80, 3) := by decide +kernel
theorem dX1_isAddedLast_30 : decode cX1_isAddedLast 30 = .ok (.iload_n 2, 1) := by decide +kernel
theorem dX1_isAddedLast_31 : decode cX1_isAddedLast 31 = .ok (.isub, 1) := by decide +kernel
theorem dX1_isAddedLast_32 : decode cX1_isAddedLast 32 = .ok (.iload 4, 2) := by decide +kernel
theorem dX1_isAddedLast_34 : decode cX1_isAddedLast 34 = .ok (.if_icmp .ne 27, 3) := by decide +kernel
theorem dX1_isAddedLast_37 : decode cX1_isAddedLast 37 = .ok (.iload_n 2, 1) := by decide +kernel
theorem dX1_isAddedLast_38 : decode cX1_isAddedLast 38 = .ok (.iload 4, 2) := by decide +kernel
theorem dX1_isAddedLast_40 : decode cX1_isAddedLast 40 = .ok (.iadd, 1) := by decide +kernel
theorem dX1_isAddedLast_41 : decode cX1_isAddedLast 41 = .ok (.aload_n 0, 1) := by decide +kernel
theorem dX1_isAddedLast_42 : decode cX1_isAddedLast 42 = .ok (.getfield 11, 3) := by decide +kernel
theorem dX1_isAddedLast_45 : decode cX1_isAddedLast 45 = .ok (.arraylength, 1) := by decide +kernel
theorem dX1_isAddedLast_46 : decode cX1_isAddedLast 46 = .ok (.if_icmp .gt 15, 3) := by decide +kernel
theorem dX1_isAddedLast_49 : decode cX1_isAddedLast 49 = .ok (.aload_n 0, 1) := by decide +kernel
theorem dX1_isAddedLast_50 : decode cX1_isAddedLast 50 = .ok (.getfield 63, 3) := by decide +kernel
theorem dX1_isAddedLast_53 : decode cX1_isAddedLast 53 = .ok (.aload_n 0, 1) := by decide +kernel
theorem dX1_isAddedLast_54 : decode cX1_isAddedLast 54 = .ok (.getfield 11, 3) := by decide +kernel
theorem dX1_isAddedLast_57 : decode cX1_isAddedLast 57 = .ok (.arraylength, 1) := by decide +kernel
theorem dX1_isAddedLast_58 : decode cX1_isAddedLast 58 = .ok (.if_icmp .le 5, 3) := by decide +kernel
theorem dX1_isAddedLast_61 : decode cX1_isAddedLast 61 = .ok (.iconst 0, 1) := by decide +kernel
theorem dX1_isAddedLast_62 : decode cX1_isAddedLast 62 = .ok (.ireturn, 1) := by decide +kernel
theorem dX1_isAddedLast_63 : decode cX1_isAddedLast 63 = .ok (.iconst 0, 1) := by decide +kernel
theorem dX1_isAddedLast_64 : decode cX1_isAddedLast 64 = .ok (.istore 5, 2) := by decide +kernel
theorem dX1_isAddedLast_66 : decode cX1_isAddedLast 66 = .ok (.iload 5, 2) := by decide +kernel
theorem dX1_isAddedLast_68 : decode cX1_isAddedLast 68 = .ok (.iload 4, 2) := by decide +kernel
theorem dX1_isAddedLast_70 : decode cX1_isAddedLast 70 = .ok (.if_icmp .ge 32, 3) := by decide +kernel
theorem dX1_isAddedLast_73 : decode cX1_isAddedLast 73 = .ok (.aload_n 0, 1) := by decide +kernel
theorem dX1_isAddedLast_74 : decode cX1_isAddedLast 74 = .ok (.getfield 11, 3) := by decide +kernel
theorem dX1_isAddedLast_77 : decode cX1_isAddedLast 77 = .ok (.iload_n 2, 1) := by decide +kernel
theorem dX1_isAddedLast_78 : decode cX1_isAddedLast 78 = .ok (.iload 5, 2) := by decide +kernel
theorem dX1_isAddedLast_80 : decode cX1_isAddedLast 80 = .ok (.iadd, 1) := by decide +kernel
theorem dX1_isAddedLast_81 : decode cX1_isAddedLast 81 = .ok (.iaload, 1) := by decide +kernel
theorem dX1_isAddedLast_82 : decode cX1_isAddedLast 82 = .ok (.aload_n 0, 1) := by decide +kernel
theorem dX1_isAddedLast_83 : decode cX1_isAddedLast 83 = .ok (.getfield 11, 3) := by decide +kernel
theorem dX1_isAddedLast_86 : decode cX1_isAddedLast 86 = .ok (.iload_n 3, 1) := by decide +kernel
theorem dX1_isAddedLast_87 : decode cX1_isAddedLast 87 = .ok (.iload 5, 2) := by decide +kernel
theorem dX1_isAddedLast_89 : decode cX1_isAddedLast 89 = .ok (.iadd, 1) := by decide +kernel
theorem dX1_isAddedLast_90 : decode cX1_isAddedLast 90 = .ok (.iaload, 1) := by decide +kernel
theorem dX1_isAddedLast_91 : decode cX1_isAddedLast 91 = .ok (.if_icmp .eq 5, 3) := by decide +kernel
theorem dX1_isAddedLast_94 : decode cX1_isAddedLast 94 = .ok (.iconst 0, 1) := by decide +kernel
theorem dX1_isAddedLast_95 : decode cX1_isAddedLast 95 = .ok (.ireturn, 1) := by decide +kernel
theorem dX1_isAddedLast_96 : decode cX1_isAddedLast 96 = .ok (.iinc 5 1, 3) := by decide +kernel
theorem dX1_isAddedLast_99 : decode cX1_isAddedLast 99 = .ok (.goto (-33), 3) := by decide +kernel
theorem dX1_isAddedLast_102 : decode cX1_isAddedLast 102 = .ok (.iconst 1, 1) := by decide +kernel
theorem dX1_isAddedLast_103 : decode cX1_isAddedLast 103 = .ok (.ireturn, 1) := by decide +kernel

theorem dX1_keep_0 : decode cX1_keep 0 = .ok (.aload_n 0, 1) := by decide +kernel
theorem dX1_keep_1 : decode cX1_keep 1 = .ok (.getfield 59, 3) := by decide +kernel
theorem dX1_keep_4 : decode cX1_keep 4 = .ok (.ifCond .lt 24, 3) := by decide +kernel
theorem dX1_keep_7 : decode cX1_keep 7 = .ok (.aload_n 0, 1) := by decide +kernel
theorem dX1_keep_8 : decode cX1_keep 8 = .ok (.getfield 59, 3) := by decide +kernel
theorem dX1_keep_11 : decode cX1_keep 11 = .ok (.sipush 4137, 3) := by decide +kernel
theorem dX1_keep_14 : decode cX1_keep 14 = .ok (.if_icmp .ge 14, 3) := by decide +kernel
theorem dX1_keep_17 : decode cX1_keep 17 = .ok (.iload_n 1, 1) := by decide +kernel
theorem dX1_keep_18 : decode cX1_keep 18 = .ok (.ifCond .lt 10, 3) := by decide +kernel
theorem dX1_keep_21 : decode cX1_keep 21 = .ok (.iload_n 1, 1) := by decide +kernel
theorem dX1_keep_22 : decode cX1_keep 22 = .ok (.sipush 8192, 3) := by decide +kernel
theorem dX1_keep_25 : decode cX1_keep 25 = .ok (.if_icmp .lt 5, 3) := by decide +kernel
theorem dX1_keep_28 : decode cX1_keep 28 = .ok (.iconst (-1), 1) := by decide +kernel
theorem dX1_keep_29 : decode cX1_keep 29 = .ok (.ireturn, 1) := by decide +kernel
theorem dX1_keep_30 : decode cX1_keep 30 = .ok (.aload_n 0, 1) := by decide +kernel
theorem dX1_keep_31 : decode cX1_keep 31 = .ok (.getfield 59, 3) := by decide +kernel
theorem dX1_keep_34 : decode cX1_keep 34 = .ok (.istore_n 2, 1) := by decide +kernel
theorem dX1_keep_35 : decode cX1_keep 35 = .ok (.aload_n 0, 1) := by decide +kernel
theorem dX1_keep_36 : decode cX1_keep 36 = .ok (.getfield 23, 3) := by decide +kernel
theorem dX1_keep_39 : decode cX1_keep 39 = .ok (.iload_n 1, 1) := by decide +kernel
theorem dX1_keep_40 : decode cX1_keep 40 = .ok (.iload_n 2, 1) := by decide +kernel
theorem dX1_keep_41 : decode cX1_keep 41 = .ok (.iconst 1, 1) := by decide +kernel
theorem dX1_keep_42 : decode cX1_keep 42 = .ok (.iadd, 1) := by decide +kernel
theorem dX1_keep_43 : decode cX1_keep 43 = .ok (.iastore, 1) := by decide +kernel
theorem dX1_keep_44 : decode cX1_keep 44 = .ok (.aload_n 0, 1) := by decide +kernel
theorem dX1_keep_45 : decode cX1_keep 45 = .ok (.getfield 20, 3) := by decide +kernel
theorem dX1_keep_48 : decode cX1_keep 48 = .ok (.iload_n 2, 1) := by decide +kernel
theorem dX1_keep_49 : decode cX1_keep 49 = .ok (.iload_n 1, 1) := by decide +kernel
theorem dX1_keep_50 : decode cX1_keep 50 = .ok (.iastore, 1) := by decide +kernel
theorem dX1_keep_51 : decode cX1_keep 51 = .ok (.aload_n 0, 1) := by decide +kernel
theorem dX1_keep_52 : decode cX1_keep 52 = .ok (.dup, 1) := by decide +kernel
theorem dX1_keep_53 : decode cX1_keep 53 = .ok (.getfield 59, 3) := by decide +kernel
theorem dX1_keep_56 : decode cX1_keep 56 = .ok (.iconst 1, 1) := by decide +kernel
theorem dX1_keep_57 : decode cX1_keep 57 = .ok (.iadd, 1) := by decide +kernel
theorem dX1_keep_58 : decode cX1_keep 58 = .ok (.putfield 59, 3) := by decide +kernel
theorem dX1_keep_61 : decode cX1_keep 61 = .ok (.aload_n 0, 1) := by decide +kernel
theorem dX1_keep_62 : decode cX1_keep 62 = .ok (.getfield 17, 3) := by decide +kernel
theorem dX1_keep_65 : decode cX1_keep 65 = .ok (.aload_n 0, 1) := by decide +kernel
theorem dX1_keep_66 : decode cX1_keep 66 = .ok (.getfield 59, 3) := by decide +kernel
theorem dX1_keep_69 : decode cX1_keep 69 = .ok (.aload_n 0, 1) := by decide +kernel
theorem dX1_keep_70 : decode cX1_keep 70 = .ok (.getfield 63, 3) := by decide +kernel
theorem dX1_keep_73 : decode cX1_keep 73 = .ok (.iastore, 1) := by decide +kernel
theorem dX1_keep_74 : decode cX1_keep 74 = .ok (.iload_n 2, 1) := by decide +kernel
theorem dX1_keep_75 : decode cX1_keep 75 = .ok (.ireturn, 1) := by decide +kernel

theorem dX1_number_0 : decode cX1_number 0 = .ok (.aload_n 0, 1) := by decide +kernel
theorem dX1_number_1 : decode cX1_number 1 = .ok (.invokevirtual 70, 3) := by decide +kernel
theorem dX1_number_4 : decode cX1_number 4 = .ok (.istore_n 1, 1) := by decide +kernel
theorem dX1_number_5 : decode cX1_number 5 = .ok (.iconst 0, 1) := by decide +kernel
theorem dX1_number_6 : decode cX1_number 6 = .ok (.istore_n 2, 1) := by decide +kernel
theorem dX1_number_7 : decode cX1_number 7 = .ok (.iload_n 2, 1) := by decide +kernel
theorem dX1_number_8 : decode cX1_number 8 = .ok (.sipush 8192, 3) := by decide +kernel
theorem dX1_number_11 : decode cX1_number 11 = .ok (.if_icmp .ge 69, 3) := by decide +kernel
theorem dX1_number_14 : decode cX1_number 14 = .ok (.iload_n 1, 1) := by decide +kernel
theorem dX1_number_15 : decode cX1_number 15 = .ok (.ifCond .lt 65, 3) := by decide +kernel
theorem dX1_number_18 : decode cX1_number 18 = .ok (.iload_n 1, 1) := by decide +kernel
theorem dX1_number_19 : decode cX1_number 19 = .ok (.sipush 8192, 3) := by decide +kernel
theorem dX1_number_22 : decode cX1_number 22 = .ok (.if_icmp .ge 58, 3) := by decide +kernel
theorem dX1_number_25 : decode cX1_number 25 = .ok (.aload_n 0, 1) := by decide +kernel
theorem dX1_number_26 : decode cX1_number 26 = .ok (.getfield 23, 3) := by decide +kernel
theorem dX1_number_29 : decode cX1_number 29 = .ok (.iload_n 1, 1) := by decide +kernel
theorem dX1_number_30 : decode cX1_number 30 = .ok (.iaload, 1) := by decide +kernel
theorem dX1_number_31 : decode cX1_number 31 = .ok (.iconst 1, 1) := by decide +kernel
theorem dX1_number_32 : decode cX1_number 32 = .ok (.isub, 1) := by decide +kernel
theorem dX1_number_33 : decode cX1_number 33 = .ok (.istore_n 3, 1) := by decide +kernel
theorem dX1_number_34 : decode cX1_number 34 = .ok (.iload_n 3, 1) := by decide +kernel
theorem dX1_number_35 : decode cX1_number 35 = .ok (.ifCond .ge 9, 3) := by decide +kernel
theorem dX1_number_38 : decode cX1_number 38 = .ok (.aload_n 0, 1) := by decide +kernel
theorem dX1_number_39 : decode cX1_number 39 = .ok (.iload_n 1, 1) := by decide +kernel
theorem dX1_number_40 : decode cX1_number 40 = .ok (.invokevirtual 73, 3) := by decide +kernel
theorem dX1_number_43 : decode cX1_number 43 = .ok (.ireturn, 1) := by decide +kernel
theorem dX1_number_44 : decode cX1_number 44 = .ok (.aload_n 0, 1) := by decide +kernel
theorem dX1_number_45 : decode cX1_number 45 = .ok (.iload_n 3, 1) := by decide +kernel
theorem dX1_number_46 : decode cX1_number 46 = .ok (.invokevirtual 76, 3) := by decide +kernel
theorem dX1_number_49 : decode cX1_number 49 = .ok (.ifCond .eq 17, 3) := by decide +kernel
theorem dX1_number_52 : decode cX1_number 52 = .ok (.aload_n 0, 1) := by decide +kernel
theorem dX1_number_53 : decode cX1_number 53 = .ok (.aload_n 0, 1) := by decide +kernel
theorem dX1_number_54 : decode cX1_number 54 = .ok (.aload_n 0, 1) := by decide +kernel
theorem dX1_number_55 : decode cX1_number 55 = .ok (.getfield 59, 3) := by decide +kernel
theorem dX1_number_58 : decode cX1_number 58 = .ok (.invokevirtual 80, 3) := by decide +kernel
theorem dX1_number_61 : decode cX1_number 61 = .ok (.putfield 63, 3) := by decide +kernel
theorem dX1_number_64 : decode cX1_number 64 = .ok (.iload_n 3, 1) := by decide +kernel
theorem dX1_number_65 : decode cX1_number 65 = .ok (.ireturn, 1) := by decide +kernel
theorem dX1_number_66 : decode cX1_number 66 = .ok (.iload_n 1, 1) := by decide +kernel
theorem dX1_number_67 : decode cX1_number 67 = .ok (.iconst 1, 1) := by decide +kernel
theorem dX1_number_68 : decode cX1_number 68 = .ok (.iadd, 1) := by decide +kernel
theorem dX1_number_69 : decode cX1_number 69 = .ok (.sipush 8191, 3) := by decide +kernel
theorem dX1_number_72 : decode cX1_number 72 = .ok (.iand, 1) := by decide +kernel
theorem dX1_number_73 : decode cX1_number 73 = .ok (.istore_n 1, 1) := by decide +kernel
theorem dX1_number_74 : decode cX1_number 74 = .ok (.iinc 2 1, 3) := by decide +kernel
theorem dX1_number_77 : decode cX1_number 77 = .ok (.goto (-70), 3) := by decide +kernel
theorem dX1_number_80 : decode cX1_number 80 = .ok (.iconst (-1), 1) := by decide +kernel
theorem dX1_number_81 : decode cX1_number 81 = .ok (.ireturn, 1) := by decide +kernel

theorem dX1_letterOf_0 : decode cX1_letterOf 0 = .ok (.iload_n 1, 1) := by decide +kernel
theorem dX1_letterOf_1 : decode cX1_letterOf 1 = .ok (.ifCond .lt 41, 3) := by decide +kernel
theorem dX1_letterOf_4 : decode cX1_letterOf 4 = .ok (.iload_n 1, 1) := by decide +kernel
theorem dX1_letterOf_5 : decode cX1_letterOf 5 = .ok (.aload_n 0, 1) := by decide +kernel
theorem dX1_letterOf_6 : decode cX1_letterOf 6 = .ok (.getfield 59, 3) := by decide +kernel
theorem dX1_letterOf_9 : decode cX1_letterOf 9 = .ok (.if_icmp .ge 33, 3) := by decide +kernel
theorem dX1_letterOf_12 : decode cX1_letterOf 12 = .ok (.iload_n 1, 1) := by decide +kernel
theorem dX1_letterOf_13 : decode cX1_letterOf 13 = .ok (.sipush 4137, 3) := by decide +kernel
theorem dX1_letterOf_16 : decode cX1_letterOf 16 = .ok (.if_icmp .ge 26, 3) := by decide +kernel
theorem dX1_letterOf_19 : decode cX1_letterOf 19 = .ok (.iload_n 2, 1) := by decide +kernel
theorem dX1_letterOf_20 : decode cX1_letterOf 20 = .ok (.ifCond .lt 22, 3) := by decide +kernel
theorem dX1_letterOf_23 : decode cX1_letterOf 23 = .ok (.iload_n 2, 1) := by decide +kernel
theorem dX1_letterOf_24 : decode cX1_letterOf 24 = .ok (.aload_n 0, 1) := by decide +kernel
theorem dX1_letterOf_25 : decode cX1_letterOf 25 = .ok (.getfield 17, 3) := by decide +kernel
theorem dX1_letterOf_28 : decode cX1_letterOf 28 = .ok (.iload_n 1, 1) := by decide +kernel
theorem dX1_letterOf_29 : decode cX1_letterOf 29 = .ok (.iconst 1, 1) := by decide +kernel
theorem dX1_letterOf_30 : decode cX1_letterOf 30 = .ok (.iadd, 1) := by decide +kernel
theorem dX1_letterOf_31 : decode cX1_letterOf 31 = .ok (.iaload, 1) := by decide +kernel
theorem dX1_letterOf_32 : decode cX1_letterOf 32 = .ok (.aload_n 0, 1) := by decide +kernel
theorem dX1_letterOf_33 : decode cX1_letterOf 33 = .ok (.getfield 17, 3) := by decide +kernel
theorem dX1_letterOf_36 : decode cX1_letterOf 36 = .ok (.iload_n 1, 1) := by decide +kernel
theorem dX1_letterOf_37 : decode cX1_letterOf 37 = .ok (.iaload, 1) := by decide +kernel
theorem dX1_letterOf_38 : decode cX1_letterOf 38 = .ok (.isub, 1) := by decide +kernel
theorem dX1_letterOf_39 : decode cX1_letterOf 39 = .ok (.if_icmp .lt 5, 3) := by decide +kernel
theorem dX1_letterOf_42 : decode cX1_letterOf 42 = .ok (.iconst (-1), 1) := by decide +kernel
theorem dX1_letterOf_43 : decode cX1_letterOf 43 = .ok (.ireturn, 1) := by decide +kernel
theorem dX1_letterOf_44 : decode cX1_letterOf 44 = .ok (.aload_n 0, 1) := by decide +kernel
theorem dX1_letterOf_45 : decode cX1_letterOf 45 = .ok (.getfield 17, 3) := by decide +kernel
theorem dX1_letterOf_48 : decode cX1_letterOf 48 = .ok (.iload_n 1, 1) := by decide +kernel
theorem dX1_letterOf_49 : decode cX1_letterOf 49 = .ok (.iaload, 1) := by decide +kernel
theorem dX1_letterOf_50 : decode cX1_letterOf 50 = .ok (.iload_n 2, 1) := by decide +kernel
theorem dX1_letterOf_51 : decode cX1_letterOf 51 = .ok (.iadd, 1) := by decide +kernel
theorem dX1_letterOf_52 : decode cX1_letterOf 52 = .ok (.istore_n 3, 1) := by decide +kernel
theorem dX1_letterOf_53 : decode cX1_letterOf 53 = .ok (.iload_n 3, 1) := by decide +kernel
theorem dX1_letterOf_54 : decode cX1_letterOf 54 = .ok (.ifCond .lt 21, 3) := by decide +kernel
theorem dX1_letterOf_57 : decode cX1_letterOf 57 = .ok (.iload_n 3, 1) := by decide +kernel
theorem dX1_letterOf_58 : decode cX1_letterOf 58 = .ok (.aload_n 0, 1) := by decide +kernel
theorem dX1_letterOf_59 : decode cX1_letterOf 59 = .ok (.getfield 11, 3) := by decide +kernel
theorem dX1_letterOf_62 : decode cX1_letterOf 62 = .ok (.arraylength, 1) := by decide +kernel
theorem dX1_letterOf_63 : decode cX1_letterOf 63 = .ok (.if_icmp .ge 12, 3) := by decide +kernel
theorem dX1_letterOf_66 : decode cX1_letterOf 66 = .ok (.aload_n 0, 1) := by decide +kernel
theorem dX1_letterOf_67 : decode cX1_letterOf 67 = .ok (.getfield 11, 3) := by decide +kernel
theorem dX1_letterOf_70 : decode cX1_letterOf 70 = .ok (.iload_n 3, 1) := by decide +kernel
theorem dX1_letterOf_71 : decode cX1_letterOf 71 = .ok (.iaload, 1) := by decide +kernel
theorem dX1_letterOf_72 : decode cX1_letterOf 72 = .ok (.goto 4, 3) := by decide +kernel
theorem dX1_letterOf_75 : decode cX1_letterOf 75 = .ok (.iconst (-1), 1) := by decide +kernel
theorem dX1_letterOf_76 : decode cX1_letterOf 76 = .ok (.ireturn, 1) := by decide +kernel
