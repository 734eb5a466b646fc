theorem dX4_init_0 : decode cX4_init 0 = .ok (.aload_n 0, 1) := by decide +kernel
theorem dX4_init_1 : decode cX4_init 1 = .ok (.invokespecial 1, 3) := by decide +kernel
theorem dX4_init_4 : decode cX4_init 4 = .ok (.aload_n 0, 1) := by decide +kernel
theorem dX4_init_5 : decode cX4_init 5 = .ok (.bipush 8, 2) := by decide +kernel
theorem dX4_init_7 : decode cX4_init 7 = .ok (.newarray .int, 2) := by decide +kernel
theorem dX4_init_9 : decode cX4_init 9 = .ok (.putfield 9, 3) := by decide +kernel
theorem dX4_init_12 : decode cX4_init 12 = .ok (.aload_n 0, 1) := by decide +kernel
theorem dX4_init_13 : decode cX4_init 13 = .ok (.bipush 8, 2) := by decide +kernel
theorem dX4_init_15 : decode cX4_init 15 = .ok (.newarray .int, 2) := by decide +kernel
theorem dX4_init_17 : decode cX4_init 17 = .ok (.putfield 13, 3) := by decide +kernel
theorem dX4_init_20 : decode cX4_init 20 = .ok (.aload_n 0, 1) := by decide +kernel
theorem dX4_init_21 : decode cX4_init 21 = .ok (.bipush 8, 2) := by decide +kernel
theorem dX4_init_23 : decode cX4_init 23 = .ok (.newarray .int, 2) := by decide +kernel
theorem dX4_init_25 : decode cX4_init 25 = .ok (.putfield 16, 3) := by decide +kernel
theorem dX4_init_28 : decode cX4_init 28 = .ok (.iconst 0, 1) := by decide +kernel
theorem dX4_init_29 : decode cX4_init 29 = .ok (.istore_n 1, 1) := by decide +kernel
theorem dX4_init_30 : decode cX4_init 30 = .ok (.iload_n 1, 1) := by decide +kernel
theorem dX4_init_31 : decode cX4_init 31 = .ok (.bipush 8, 2) := by decide +kernel
theorem dX4_init_33 : decode cX4_init 33 = .ok (.if_icmp .ge 17, 3) := by decide +kernel
theorem dX4_init_36 : decode cX4_init 36 = .ok (.aload_n 0, 1) := by decide +kernel
theorem dX4_init_37 : decode cX4_init 37 = .ok (.getfield 9, 3) := by decide +kernel
theorem dX4_init_40 : decode cX4_init 40 = .ok (.iload_n 1, 1) := by decide +kernel
theorem dX4_init_41 : decode cX4_init 41 = .ok (.bipush 10, 2) := by decide +kernel
theorem dX4_init_43 : decode cX4_init 43 = .ok (.iastore, 1) := by decide +kernel
theorem dX4_init_44 : decode cX4_init 44 = .ok (.iinc 1 1, 3) := by decide +kernel
theorem dX4_init_47 : decode cX4_init 47 = .ok (.goto (-17), 3) := by decide +kernel
theorem dX4_init_50 : decode cX4_init 50 = .ok (.return_, 1) := by decide +kernel
theorem dX4_due_0 : decode cX4_due 0 = .ok (.iload_n 2, 1) := by decide +kernel
theorem dX4_due_1 : decode cX4_due 1 = .ok (.aload_n 0, 1) := by decide +kernel
theorem dX4_due_2 : decode cX4_due 2 = .ok (.getfield 9, 3) := by decide +kernel
theorem dX4_due_5 : decode cX4_due 5 = .ok (.iload_n 1, 1) := by decide +kernel
theorem dX4_due_6 : decode cX4_due 6 = .ok (.iaload, 1) := by decide +kernel
theorem dX4_due_7 : decode cX4_due 7 = .ok (.imul, 1) := by decide +kernel
theorem dX4_due_8 : decode cX4_due 8 = .ok (.bipush 9, 2) := by decide +kernel
theorem dX4_due_10 : decode cX4_due 10 = .ok (.iadd, 1) := by decide +kernel
theorem dX4_due_11 : decode cX4_due 11 = .ok (.bipush 10, 2) := by decide +kernel
theorem dX4_due_13 : decode cX4_due 13 = .ok (.idiv, 1) := by decide +kernel
theorem dX4_due_14 : decode cX4_due 14 = .ok (.ireturn, 1) := by decide +kernel
theorem dX4_countNote_0 : decode cX4_countNote 0 = .ok (.aload_n 0, 1) := by decide +kernel
theorem dX4_countNote_1 : decode cX4_countNote 1 = .ok (.getfield 13, 3) := by decide +kernel
theorem dX4_countNote_4 : decode cX4_countNote 4 = .ok (.iload_n 1, 1) := by decide +kernel
theorem dX4_countNote_5 : decode cX4_countNote 5 = .ok (.dup2, 1) := by decide +kernel
theorem dX4_countNote_6 : decode cX4_countNote 6 = .ok (.iaload, 1) := by decide +kernel
theorem dX4_countNote_7 : decode cX4_countNote 7 = .ok (.iconst 1, 1) := by decide +kernel
theorem dX4_countNote_8 : decode cX4_countNote 8 = .ok (.iadd, 1) := by decide +kernel
theorem dX4_countNote_9 : decode cX4_countNote 9 = .ok (.iastore, 1) := by decide +kernel
theorem dX4_countNote_10 : decode cX4_countNote 10 = .ok (.iload_n 2, 1) := by decide +kernel
theorem dX4_countNote_11 : decode cX4_countNote 11 = .ok (.ifCond .eq 13, 3) := by decide +kernel
theorem dX4_countNote_14 : decode cX4_countNote 14 = .ok (.aload_n 0, 1) := by decide +kernel
theorem dX4_countNote_15 : decode cX4_countNote 15 = .ok (.getfield 16, 3) := by decide +kernel
theorem dX4_countNote_18 : decode cX4_countNote 18 = .ok (.iload_n 1, 1) := by decide +kernel
theorem dX4_countNote_19 : decode cX4_countNote 19 = .ok (.dup2, 1) := by decide +kernel
theorem dX4_countNote_20 : decode cX4_countNote 20 = .ok (.iaload, 1) := by decide +kernel
theorem dX4_countNote_21 : decode cX4_countNote 21 = .ok (.iconst 1, 1) := by decide +kernel
theorem dX4_countNote_22 : decode cX4_countNote 22 = .ok (.iadd, 1) := by decide +kernel
theorem dX4_countNote_23 : decode cX4_countNote 23 = .ok (.iastore, 1) := by decide +kernel
theorem dX4_countNote_24 : decode cX4_countNote 24 = .ok (.return_, 1) := by decide +kernel
