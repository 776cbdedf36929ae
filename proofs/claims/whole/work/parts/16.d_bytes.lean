theorem dX0_cut_0 : decode cX0_cut 0 = .ok (.iload_n 1, 1) := by decide +kernel
theorem dX0_cut_1 : decode cX0_cut 1 = .ok (.ifCond .lt 16, 3) := by decide +kernel
theorem dX0_cut_4 : decode cX0_cut 4 = .ok (.iload_n 1, 1) := by decide +kernel
theorem dX0_cut_5 : decode cX0_cut 5 = .ok (.aload_n 0, 1) := by decide +kernel
theorem dX0_cut_6 : decode cX0_cut 6 = .ok (.getfield 15, 3) := by decide +kernel
theorem dX0_cut_9 : decode cX0_cut 9 = .ok (.if_icmp .ge 8, 3) := by decide +kernel
theorem dX0_cut_12 : decode cX0_cut 12 = .ok (.aload_n 0, 1) := by decide +kernel
theorem dX0_cut_13 : decode cX0_cut 13 = .ok (.iload_n 1, 1) := by decide +kernel
theorem dX0_cut_14 : decode cX0_cut 14 = .ok (.putfield 15, 3) := by decide +kernel
theorem dX0_cut_17 : decode cX0_cut 17 = .ok (.return_, 1) := by decide +kernel

theorem dX0_put_0 : decode cX0_put 0 = .ok (.aload_n 0, 1) := by decide +kernel
theorem dX0_put_1 : decode cX0_put 1 = .ok (.getfield 15, 3) := by decide +kernel
theorem dX0_put_4 : decode cX0_put 4 = .ok (.ifCond .lt 35, 3) := by decide +kernel
theorem dX0_put_7 : decode cX0_put 7 = .ok (.aload_n 0, 1) := by decide +kernel
theorem dX0_put_8 : decode cX0_put 8 = .ok (.getfield 15, 3) := by decide +kernel
theorem dX0_put_11 : decode cX0_put 11 = .ok (.aload_n 0, 1) := by decide +kernel
theorem dX0_put_12 : decode cX0_put 12 = .ok (.getfield 9, 3) := by decide +kernel
theorem dX0_put_15 : decode cX0_put 15 = .ok (.arraylength, 1) := by decide +kernel
theorem dX0_put_16 : decode cX0_put 16 = .ok (.if_icmp .ge 23, 3) := by decide +kernel
theorem dX0_put_19 : decode cX0_put 19 = .ok (.aload_n 0, 1) := by decide +kernel
theorem dX0_put_20 : decode cX0_put 20 = .ok (.getfield 9, 3) := by decide +kernel
theorem dX0_put_23 : decode cX0_put 23 = .ok (.aload_n 0, 1) := by decide +kernel
theorem dX0_put_24 : decode cX0_put 24 = .ok (.getfield 15, 3) := by decide +kernel
theorem dX0_put_27 : decode cX0_put 27 = .ok (.iload_n 1, 1) := by decide +kernel
theorem dX0_put_28 : decode cX0_put 28 = .ok (.iastore, 1) := by decide +kernel
theorem dX0_put_29 : decode cX0_put 29 = .ok (.aload_n 0, 1) := by decide +kernel
theorem dX0_put_30 : decode cX0_put 30 = .ok (.dup, 1) := by decide +kernel
theorem dX0_put_31 : decode cX0_put 31 = .ok (.getfield 15, 3) := by decide +kernel
theorem dX0_put_34 : decode cX0_put 34 = .ok (.iconst 1, 1) := by decide +kernel
theorem dX0_put_35 : decode cX0_put 35 = .ok (.iadd, 1) := by decide +kernel
theorem dX0_put_36 : decode cX0_put 36 = .ok (.putfield 15, 3) := by decide +kernel
theorem dX0_put_39 : decode cX0_put 39 = .ok (.return_, 1) := by decide +kernel

theorem dX0_get_0 : decode cX0_get 0 = .ok (.iload_n 1, 1) := by decide +kernel
theorem dX0_get_1 : decode cX0_get 1 = .ok (.ifCond .lt 29, 3) := by decide +kernel
theorem dX0_get_4 : decode cX0_get 4 = .ok (.iload_n 1, 1) := by decide +kernel
theorem dX0_get_5 : decode cX0_get 5 = .ok (.aload_n 0, 1) := by decide +kernel
theorem dX0_get_6 : decode cX0_get 6 = .ok (.getfield 15, 3) := by decide +kernel
theorem dX0_get_9 : decode cX0_get 9 = .ok (.if_icmp .ge 21, 3) := by decide +kernel
theorem dX0_get_12 : decode cX0_get 12 = .ok (.iload_n 1, 1) := by decide +kernel
theorem dX0_get_13 : decode cX0_get 13 = .ok (.aload_n 0, 1) := by decide +kernel
theorem dX0_get_14 : decode cX0_get 14 = .ok (.getfield 9, 3) := by decide +kernel
theorem dX0_get_17 : decode cX0_get 17 = .ok (.arraylength, 1) := by decide +kernel
theorem dX0_get_18 : decode cX0_get 18 = .ok (.if_icmp .ge 12, 3) := by decide +kernel
theorem dX0_get_21 : decode cX0_get 21 = .ok (.aload_n 0, 1) := by decide +kernel
theorem dX0_get_22 : decode cX0_get 22 = .ok (.getfield 9, 3) := by decide +kernel
theorem dX0_get_25 : decode cX0_get 25 = .ok (.iload_n 1, 1) := by decide +kernel
theorem dX0_get_26 : decode cX0_get 26 = .ok (.iaload, 1) := by decide +kernel
theorem dX0_get_27 : decode cX0_get 27 = .ok (.goto 4, 3) := by decide +kernel
theorem dX0_get_30 : decode cX0_get 30 = .ok (.iconst (-1), 1) := by decide +kernel
theorem dX0_get_31 : decode cX0_get 31 = .ok (.ireturn, 1) := by decide +kernel

theorem dX0_swap_0 : decode cX0_swap 0 = .ok (.aload_n 0, 1) := by decide +kernel
theorem dX0_swap_1 : decode cX0_swap 1 = .ok (.iload_n 1, 1) := by decide +kernel
theorem dX0_swap_2 : decode cX0_swap 2 = .ok (.invokevirtual 19, 3) := by decide +kernel
theorem dX0_swap_5 : decode cX0_swap 5 = .ok (.istore_n 3, 1) := by decide +kernel
theorem dX0_swap_6 : decode cX0_swap 6 = .ok (.iload_n 3, 1) := by decide +kernel
theorem dX0_swap_7 : decode cX0_swap 7 = .ok (.iconst (-1), 1) := by decide +kernel
theorem dX0_swap_8 : decode cX0_swap 8 = .ok (.if_icmp .eq 23, 3) := by decide +kernel
theorem dX0_swap_11 : decode cX0_swap 11 = .ok (.iload_n 1, 1) := by decide +kernel
theorem dX0_swap_12 : decode cX0_swap 12 = .ok (.ifCond .lt 19, 3) := by decide +kernel
theorem dX0_swap_15 : decode cX0_swap 15 = .ok (.iload_n 1, 1) := by decide +kernel
theorem dX0_swap_16 : decode cX0_swap 16 = .ok (.aload_n 0, 1) := by decide +kernel
theorem dX0_swap_17 : decode cX0_swap 17 = .ok (.getfield 9, 3) := by decide +kernel
theorem dX0_swap_20 : decode cX0_swap 20 = .ok (.arraylength, 1) := by decide +kernel
theorem dX0_swap_21 : decode cX0_swap 21 = .ok (.if_icmp .ge 10, 3) := by decide +kernel
theorem dX0_swap_24 : decode cX0_swap 24 = .ok (.aload_n 0, 1) := by decide +kernel
theorem dX0_swap_25 : decode cX0_swap 25 = .ok (.getfield 9, 3) := by decide +kernel
theorem dX0_swap_28 : decode cX0_swap 28 = .ok (.iload_n 1, 1) := by decide +kernel
theorem dX0_swap_29 : decode cX0_swap 29 = .ok (.iload_n 2, 1) := by decide +kernel
theorem dX0_swap_30 : decode cX0_swap 30 = .ok (.iastore, 1) := by decide +kernel
theorem dX0_swap_31 : decode cX0_swap 31 = .ok (.iload_n 3, 1) := by decide +kernel
theorem dX0_swap_32 : decode cX0_swap 32 = .ok (.ireturn, 1) := by decide +kernel
