theorem dX1_init_0 : decode cX1_init 0 = .ok (.aload_n 0, 1) := by decide +kernel
theorem dX1_init_1 : decode cX1_init 1 = .ok (.invokespecial 3, 3) := by decide +kernel
theorem dX1_init_4 : decode cX1_init 4 = .ok (.aload_n 0, 1) := by decide +kernel
theorem dX1_init_5 : decode cX1_init 5 = .ok (.aload_n 1, 1) := by decide +kernel
theorem dX1_init_6 : decode cX1_init 6 = .ok (.putfield 9, 3) := by decide +kernel
theorem dX1_init_9 : decode cX1_init 9 = .ok (.aload_n 0, 1) := by decide +kernel
theorem dX1_init_10 : decode cX1_init 10 = .ok (.bipush 60, 2) := by decide +kernel
theorem dX1_init_12 : decode cX1_init 12 = .ok (.newarray .int, 2) := by decide +kernel
theorem dX1_init_14 : decode cX1_init 14 = .ok (.putfield 15, 3) := by decide +kernel
theorem dX1_init_17 : decode cX1_init 17 = .ok (.aload_n 0, 1) := by decide +kernel
theorem dX1_init_18 : decode cX1_init 18 = .ok (.bipush 60, 2) := by decide +kernel
theorem dX1_init_20 : decode cX1_init 20 = .ok (.newarray .int, 2) := by decide +kernel
theorem dX1_init_22 : decode cX1_init 22 = .ok (.putfield 19, 3) := by decide +kernel
theorem dX1_init_25 : decode cX1_init 25 = .ok (.aload_n 0, 1) := by decide +kernel
theorem dX1_init_26 : decode cX1_init 26 = .ok (.bipush 60, 2) := by decide +kernel
theorem dX1_init_28 : decode cX1_init 28 = .ok (.newarray .int, 2) := by decide +kernel
theorem dX1_init_30 : decode cX1_init 30 = .ok (.putfield 22, 3) := by decide +kernel
theorem dX1_init_33 : decode cX1_init 33 = .ok (.aload_n 0, 1) := by decide +kernel
theorem dX1_init_34 : decode cX1_init 34 = .ok (.bipush 60, 2) := by decide +kernel
theorem dX1_init_36 : decode cX1_init 36 = .ok (.newarray .int, 2) := by decide +kernel
theorem dX1_init_38 : decode cX1_init 38 = .ok (.putfield 25, 3) := by decide +kernel
theorem dX1_init_41 : decode cX1_init 41 = .ok (.aload_n 0, 1) := by decide +kernel
theorem dX1_init_42 : decode cX1_init 42 = .ok (.bipush 60, 2) := by decide +kernel
theorem dX1_init_44 : decode cX1_init 44 = .ok (.newarray .int, 2) := by decide +kernel
theorem dX1_init_46 : decode cX1_init 46 = .ok (.putfield 28, 3) := by decide +kernel
theorem dX1_init_49 : decode cX1_init 49 = .ok (.aload_n 0, 1) := by decide +kernel
theorem dX1_init_50 : decode cX1_init 50 = .ok (.bipush 60, 2) := by decide +kernel
theorem dX1_init_52 : decode cX1_init 52 = .ok (.newarray .int, 2) := by decide +kernel
theorem dX1_init_54 : decode cX1_init 54 = .ok (.putfield 31, 3) := by decide +kernel
theorem dX1_init_57 : decode cX1_init 57 = .ok (.aload_n 0, 1) := by decide +kernel
theorem dX1_init_58 : decode cX1_init 58 = .ok (.iconst 0, 1) := by decide +kernel
theorem dX1_init_59 : decode cX1_init 59 = .ok (.putfield 34, 3) := by decide +kernel
theorem dX1_init_62 : decode cX1_init 62 = .ok (.return_, 1) := by decide +kernel
theorem dX1_add_0 : decode cX1_add 0 = .ok (.aload_n 0, 1) := by decide +kernel
theorem dX1_add_1 : decode cX1_add 1 = .ok (.getfield 15, 3) := by decide +kernel
theorem dX1_add_4 : decode cX1_add 4 = .ok (.aload_n 0, 1) := by decide +kernel
theorem dX1_add_5 : decode cX1_add 5 = .ok (.getfield 34, 3) := by decide +kernel
theorem dX1_add_8 : decode cX1_add 8 = .ok (.iload_n 1, 1) := by decide +kernel
theorem dX1_add_9 : decode cX1_add 9 = .ok (.iastore, 1) := by decide +kernel
theorem dX1_add_10 : decode cX1_add 10 = .ok (.aload_n 0, 1) := by decide +kernel
theorem dX1_add_11 : decode cX1_add 11 = .ok (.getfield 19, 3) := by decide +kernel
theorem dX1_add_14 : decode cX1_add 14 = .ok (.aload_n 0, 1) := by decide +kernel
theorem dX1_add_15 : decode cX1_add 15 = .ok (.getfield 34, 3) := by decide +kernel
theorem dX1_add_18 : decode cX1_add 18 = .ok (.iload_n 2, 1) := by decide +kernel
theorem dX1_add_19 : decode cX1_add 19 = .ok (.iastore, 1) := by decide +kernel
theorem dX1_add_20 : decode cX1_add 20 = .ok (.aload_n 0, 1) := by decide +kernel
theorem dX1_add_21 : decode cX1_add 21 = .ok (.getfield 22, 3) := by decide +kernel
theorem dX1_add_24 : decode cX1_add 24 = .ok (.aload_n 0, 1) := by decide +kernel
theorem dX1_add_25 : decode cX1_add 25 = .ok (.getfield 34, 3) := by decide +kernel
theorem dX1_add_28 : decode cX1_add 28 = .ok (.iload_n 3, 1) := by decide +kernel
theorem dX1_add_29 : decode cX1_add 29 = .ok (.iastore, 1) := by decide +kernel
theorem dX1_add_30 : decode cX1_add 30 = .ok (.aload_n 0, 1) := by decide +kernel
theorem dX1_add_31 : decode cX1_add 31 = .ok (.getfield 25, 3) := by decide +kernel
theorem dX1_add_34 : decode cX1_add 34 = .ok (.aload_n 0, 1) := by decide +kernel
theorem dX1_add_35 : decode cX1_add 35 = .ok (.getfield 34, 3) := by decide +kernel
theorem dX1_add_38 : decode cX1_add 38 = .ok (.iconst 0, 1) := by decide +kernel
theorem dX1_add_39 : decode cX1_add 39 = .ok (.iastore, 1) := by decide +kernel
theorem dX1_add_40 : decode cX1_add 40 = .ok (.aload_n 0, 1) := by decide +kernel
theorem dX1_add_41 : decode cX1_add 41 = .ok (.getfield 28, 3) := by decide +kernel
theorem dX1_add_44 : decode cX1_add 44 = .ok (.aload_n 0, 1) := by decide +kernel
theorem dX1_add_45 : decode cX1_add 45 = .ok (.getfield 34, 3) := by decide +kernel
theorem dX1_add_48 : decode cX1_add 48 = .ok (.iconst 0, 1) := by decide +kernel
theorem dX1_add_49 : decode cX1_add 49 = .ok (.iastore, 1) := by decide +kernel
theorem dX1_add_50 : decode cX1_add 50 = .ok (.aload_n 0, 1) := by decide +kernel
theorem dX1_add_51 : decode cX1_add 51 = .ok (.getfield 31, 3) := by decide +kernel
theorem dX1_add_54 : decode cX1_add 54 = .ok (.aload_n 0, 1) := by decide +kernel
theorem dX1_add_55 : decode cX1_add 55 = .ok (.getfield 34, 3) := by decide +kernel
theorem dX1_add_58 : decode cX1_add 58 = .ok (.iconst (-1), 1) := by decide +kernel
theorem dX1_add_59 : decode cX1_add 59 = .ok (.iastore, 1) := by decide +kernel
theorem dX1_add_60 : decode cX1_add 60 = .ok (.aload_n 0, 1) := by decide +kernel
theorem dX1_add_61 : decode cX1_add 61 = .ok (.dup, 1) := by decide +kernel
theorem dX1_add_62 : decode cX1_add 62 = .ok (.getfield 34, 3) := by decide +kernel
theorem dX1_add_65 : decode cX1_add 65 = .ok (.iconst 1, 1) := by decide +kernel
theorem dX1_add_66 : decode cX1_add 66 = .ok (.iadd, 1) := by decide +kernel
theorem dX1_add_67 : decode cX1_add 67 = .ok (.putfield 34, 3) := by decide +kernel
theorem dX1_add_70 : decode cX1_add 70 = .ok (.aload_n 0, 1) := by decide +kernel
theorem dX1_add_71 : decode cX1_add 71 = .ok (.getfield 34, 3) := by decide +kernel
theorem dX1_add_74 : decode cX1_add 74 = .ok (.iconst 1, 1) := by decide +kernel
theorem dX1_add_75 : decode cX1_add 75 = .ok (.isub, 1) := by decide +kernel
theorem dX1_add_76 : decode cX1_add 76 = .ok (.ireturn, 1) := by decide +kernel
theorem dX1_pour_0 : decode cX1_pour 0 = .ok (.aload_n 0, 1) := by decide +kernel
theorem dX1_pour_1 : decode cX1_pour 1 = .ok (.getfield 28, 3) := by decide +kernel
theorem dX1_pour_4 : decode cX1_pour 4 = .ok (.iload_n 1, 1) := by decide +kernel
theorem dX1_pour_5 : decode cX1_pour 5 = .ok (.iaload, 1) := by decide +kernel
theorem dX1_pour_6 : decode cX1_pour 6 = .ok (.ifCond .ne 28, 3) := by decide +kernel
theorem dX1_pour_9 : decode cX1_pour 9 = .ok (.aload_n 0, 1) := by decide +kernel
theorem dX1_pour_10 : decode cX1_pour 10 = .ok (.getfield 25, 3) := by decide +kernel
theorem dX1_pour_13 : decode cX1_pour 13 = .ok (.iload_n 1, 1) := by decide +kernel
theorem dX1_pour_14 : decode cX1_pour 14 = .ok (.iaload, 1) := by decide +kernel
theorem dX1_pour_15 : decode cX1_pour 15 = .ok (.iload_n 2, 1) := by decide +kernel
theorem dX1_pour_16 : decode cX1_pour 16 = .ok (.iadd, 1) := by decide +kernel
theorem dX1_pour_17 : decode cX1_pour 17 = .ok (.aload_n 0, 1) := by decide +kernel
theorem dX1_pour_18 : decode cX1_pour 18 = .ok (.getfield 9, 3) := by decide +kernel
theorem dX1_pour_21 : decode cX1_pour 21 = .ok (.getfield 38, 3) := by decide +kernel
theorem dX1_pour_24 : decode cX1_pour 24 = .ok (.aload_n 0, 1) := by decide +kernel
theorem dX1_pour_25 : decode cX1_pour 25 = .ok (.getfield 15, 3) := by decide +kernel
theorem dX1_pour_28 : decode cX1_pour 28 = .ok (.iload_n 1, 1) := by decide +kernel
theorem dX1_pour_29 : decode cX1_pour 29 = .ok (.iaload, 1) := by decide +kernel
theorem dX1_pour_30 : decode cX1_pour 30 = .ok (.iaload, 1) := by decide +kernel
theorem dX1_pour_31 : decode cX1_pour 31 = .ok (.if_icmp .le 5, 3) := by decide +kernel
theorem dX1_pour_34 : decode cX1_pour 34 = .ok (.iconst (-1), 1) := by decide +kernel
theorem dX1_pour_35 : decode cX1_pour 35 = .ok (.ireturn, 1) := by decide +kernel
theorem dX1_pour_36 : decode cX1_pour 36 = .ok (.aload_n 0, 1) := by decide +kernel
theorem dX1_pour_37 : decode cX1_pour 37 = .ok (.getfield 25, 3) := by decide +kernel
theorem dX1_pour_40 : decode cX1_pour 40 = .ok (.iload_n 1, 1) := by decide +kernel
theorem dX1_pour_41 : decode cX1_pour 41 = .ok (.dup2, 1) := by decide +kernel
theorem dX1_pour_42 : decode cX1_pour 42 = .ok (.iaload, 1) := by decide +kernel
theorem dX1_pour_43 : decode cX1_pour 43 = .ok (.iload_n 2, 1) := by decide +kernel
theorem dX1_pour_44 : decode cX1_pour 44 = .ok (.iadd, 1) := by decide +kernel
theorem dX1_pour_45 : decode cX1_pour 45 = .ok (.iastore, 1) := by decide +kernel
theorem dX1_pour_46 : decode cX1_pour 46 = .ok (.aload_n 0, 1) := by decide +kernel
theorem dX1_pour_47 : decode cX1_pour 47 = .ok (.getfield 25, 3) := by decide +kernel
theorem dX1_pour_50 : decode cX1_pour 50 = .ok (.iload_n 1, 1) := by decide +kernel
theorem dX1_pour_51 : decode cX1_pour 51 = .ok (.iaload, 1) := by decide +kernel
theorem dX1_pour_52 : decode cX1_pour 52 = .ok (.ireturn, 1) := by decide +kernel
theorem dX1_move_0 : decode cX1_move 0 = .ok (.aload_n 0, 1) := by decide +kernel
theorem dX1_move_1 : decode cX1_move 1 = .ok (.getfield 28, 3) := by decide +kernel
theorem dX1_move_4 : decode cX1_move 4 = .ok (.iload_n 1, 1) := by decide +kernel
theorem dX1_move_5 : decode cX1_move 5 = .ok (.iload_n 2, 1) := by decide +kernel
theorem dX1_move_6 : decode cX1_move 6 = .ok (.iastore, 1) := by decide +kernel
theorem dX1_move_7 : decode cX1_move 7 = .ok (.aload_n 0, 1) := by decide +kernel
theorem dX1_move_8 : decode cX1_move 8 = .ok (.getfield 31, 3) := by decide +kernel
theorem dX1_move_11 : decode cX1_move 11 = .ok (.iload_n 1, 1) := by decide +kernel
theorem dX1_move_12 : decode cX1_move 12 = .ok (.iload_n 3, 1) := by decide +kernel
theorem dX1_move_13 : decode cX1_move 13 = .ok (.iastore, 1) := by decide +kernel
theorem dX1_move_14 : decode cX1_move 14 = .ok (.return_, 1) := by decide +kernel
theorem dX1_weight_0 : decode cX1_weight 0 = .ok (.aload_n 0, 1) := by decide +kernel
theorem dX1_weight_1 : decode cX1_weight 1 = .ok (.getfield 9, 3) := by decide +kernel
theorem dX1_weight_4 : decode cX1_weight 4 = .ok (.getfield 43, 3) := by decide +kernel
theorem dX1_weight_7 : decode cX1_weight 7 = .ok (.aload_n 0, 1) := by decide +kernel
theorem dX1_weight_8 : decode cX1_weight 8 = .ok (.getfield 15, 3) := by decide +kernel
theorem dX1_weight_11 : decode cX1_weight 11 = .ok (.iload_n 1, 1) := by decide +kernel
theorem dX1_weight_12 : decode cX1_weight 12 = .ok (.iaload, 1) := by decide +kernel
theorem dX1_weight_13 : decode cX1_weight 13 = .ok (.iaload, 1) := by decide +kernel
theorem dX1_weight_14 : decode cX1_weight 14 = .ok (.aload_n 0, 1) := by decide +kernel
theorem dX1_weight_15 : decode cX1_weight 15 = .ok (.getfield 25, 3) := by decide +kernel
theorem dX1_weight_18 : decode cX1_weight 18 = .ok (.iload_n 1, 1) := by decide +kernel
theorem dX1_weight_19 : decode cX1_weight 19 = .ok (.iaload, 1) := by decide +kernel
theorem dX1_weight_20 : decode cX1_weight 20 = .ok (.iadd, 1) := by decide +kernel
theorem dX1_weight_21 : decode cX1_weight 21 = .ok (.ireturn, 1) := by decide +kernel
theorem dX1_bears_0 : decode cX1_bears 0 = .ok (.aload_n 0, 1) := by decide +kernel
theorem dX1_bears_1 : decode cX1_bears 1 = .ok (.getfield 9, 3) := by decide +kernel
theorem dX1_bears_4 : decode cX1_bears 4 = .ok (.getfield 46, 3) := by decide +kernel
theorem dX1_bears_7 : decode cX1_bears 7 = .ok (.aload_n 0, 1) := by decide +kernel
theorem dX1_bears_8 : decode cX1_bears 8 = .ok (.getfield 15, 3) := by decide +kernel
theorem dX1_bears_11 : decode cX1_bears 11 = .ok (.iload_n 1, 1) := by decide +kernel
theorem dX1_bears_12 : decode cX1_bears 12 = .ok (.iaload, 1) := by decide +kernel
theorem dX1_bears_13 : decode cX1_bears 13 = .ok (.iaload, 1) := by decide +kernel
theorem dX1_bears_14 : decode cX1_bears 14 = .ok (.ireturn, 1) := by decide +kernel
theorem dX1_countIn_0 : decode cX1_countIn 0 = .ok (.iconst 0, 1) := by decide +kernel
theorem dX1_countIn_1 : decode cX1_countIn 1 = .ok (.istore_n 2, 1) := by decide +kernel
theorem dX1_countIn_2 : decode cX1_countIn 2 = .ok (.iconst 0, 1) := by decide +kernel
theorem dX1_countIn_3 : decode cX1_countIn 3 = .ok (.istore_n 3, 1) := by decide +kernel
theorem dX1_countIn_4 : decode cX1_countIn 4 = .ok (.iload_n 3, 1) := by decide +kernel
theorem dX1_countIn_5 : decode cX1_countIn 5 = .ok (.aload_n 0, 1) := by decide +kernel
theorem dX1_countIn_6 : decode cX1_countIn 6 = .ok (.getfield 34, 3) := by decide +kernel
theorem dX1_countIn_9 : decode cX1_countIn 9 = .ok (.if_icmp .ge 22, 3) := by decide +kernel
theorem dX1_countIn_12 : decode cX1_countIn 12 = .ok (.aload_n 0, 1) := by decide +kernel
theorem dX1_countIn_13 : decode cX1_countIn 13 = .ok (.getfield 28, 3) := by decide +kernel
theorem dX1_countIn_16 : decode cX1_countIn 16 = .ok (.iload_n 3, 1) := by decide +kernel
theorem dX1_countIn_17 : decode cX1_countIn 17 = .ok (.iaload, 1) := by decide +kernel
theorem dX1_countIn_18 : decode cX1_countIn 18 = .ok (.iload_n 1, 1) := by decide +kernel
theorem dX1_countIn_19 : decode cX1_countIn 19 = .ok (.if_icmp .ne 6, 3) := by decide +kernel
theorem dX1_countIn_22 : decode cX1_countIn 22 = .ok (.iinc 2 1, 3) := by decide +kernel
theorem dX1_countIn_25 : decode cX1_countIn 25 = .ok (.iinc 3 1, 3) := by decide +kernel
theorem dX1_countIn_28 : decode cX1_countIn 28 = .ok (.goto (-24), 3) := by decide +kernel
theorem dX1_countIn_31 : decode cX1_countIn 31 = .ok (.iload_n 2, 1) := by decide +kernel
theorem dX1_countIn_32 : decode cX1_countIn 32 = .ok (.ireturn, 1) := by decide +kernel
theorem dX1_oilUnbroken_0 : decode cX1_oilUnbroken 0 = .ok (.iconst 0, 1) := by decide +kernel
theorem dX1_oilUnbroken_1 : decode cX1_oilUnbroken 1 = .ok (.istore_n 1, 1) := by decide +kernel
theorem dX1_oilUnbroken_2 : decode cX1_oilUnbroken 2 = .ok (.iconst 0, 1) := by decide +kernel
theorem dX1_oilUnbroken_3 : decode cX1_oilUnbroken 3 = .ok (.istore_n 2, 1) := by decide +kernel
theorem dX1_oilUnbroken_4 : decode cX1_oilUnbroken 4 = .ok (.iload_n 2, 1) := by decide +kernel
theorem dX1_oilUnbroken_5 : decode cX1_oilUnbroken 5 = .ok (.aload_n 0, 1) := by decide +kernel
theorem dX1_oilUnbroken_6 : decode cX1_oilUnbroken 6 = .ok (.getfield 34, 3) := by decide +kernel
theorem dX1_oilUnbroken_9 : decode cX1_oilUnbroken 9 = .ok (.if_icmp .ge 28, 3) := by decide +kernel
theorem dX1_oilUnbroken_12 : decode cX1_oilUnbroken 12 = .ok (.aload_n 0, 1) := by decide +kernel
theorem dX1_oilUnbroken_13 : decode cX1_oilUnbroken 13 = .ok (.getfield 28, 3) := by decide +kernel
theorem dX1_oilUnbroken_16 : decode cX1_oilUnbroken 16 = .ok (.iload_n 2, 1) := by decide +kernel
theorem dX1_oilUnbroken_17 : decode cX1_oilUnbroken 17 = .ok (.iaload, 1) := by decide +kernel
theorem dX1_oilUnbroken_18 : decode cX1_oilUnbroken 18 = .ok (.iconst 3, 1) := by decide +kernel
theorem dX1_oilUnbroken_19 : decode cX1_oilUnbroken 19 = .ok (.if_icmp .eq 12, 3) := by decide +kernel
theorem dX1_oilUnbroken_22 : decode cX1_oilUnbroken 22 = .ok (.iload_n 1, 1) := by decide +kernel
theorem dX1_oilUnbroken_23 : decode cX1_oilUnbroken 23 = .ok (.aload_n 0, 1) := by decide +kernel
theorem dX1_oilUnbroken_24 : decode cX1_oilUnbroken 24 = .ok (.getfield 25, 3) := by decide +kernel
theorem dX1_oilUnbroken_27 : decode cX1_oilUnbroken 27 = .ok (.iload_n 2, 1) := by decide +kernel
theorem dX1_oilUnbroken_28 : decode cX1_oilUnbroken 28 = .ok (.iaload, 1) := by decide +kernel
theorem dX1_oilUnbroken_29 : decode cX1_oilUnbroken 29 = .ok (.iadd, 1) := by decide +kernel
theorem dX1_oilUnbroken_30 : decode cX1_oilUnbroken 30 = .ok (.istore_n 1, 1) := by decide +kernel
theorem dX1_oilUnbroken_31 : decode cX1_oilUnbroken 31 = .ok (.iinc 2 1, 3) := by decide +kernel
theorem dX1_oilUnbroken_34 : decode cX1_oilUnbroken 34 = .ok (.goto (-30), 3) := by decide +kernel
theorem dX1_oilUnbroken_37 : decode cX1_oilUnbroken 37 = .ok (.iload_n 1, 1) := by decide +kernel
theorem dX1_oilUnbroken_38 : decode cX1_oilUnbroken 38 = .ok (.ireturn, 1) := by decide +kernel
