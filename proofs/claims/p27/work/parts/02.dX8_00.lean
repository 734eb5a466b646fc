theorem dX8_init_0 : decode cX8_init 0 = .ok (.aload_n 0, 1) := by decide +kernel
theorem dX8_init_1 : decode cX8_init 1 = .ok (.invokespecial 3, 3) := by decide +kernel
theorem dX8_init_4 : decode cX8_init 4 = .ok (.aload_n 0, 1) := by decide +kernel
theorem dX8_init_5 : decode cX8_init 5 = .ok (.bipush 60, 2) := by decide +kernel
theorem dX8_init_7 : decode cX8_init 7 = .ok (.newarray .int, 2) := by decide +kernel
theorem dX8_init_9 : decode cX8_init 9 = .ok (.putfield 11, 3) := by decide +kernel
theorem dX8_init_12 : decode cX8_init 12 = .ok (.aload_n 0, 1) := by decide +kernel
theorem dX8_init_13 : decode cX8_init 13 = .ok (.bipush 60, 2) := by decide +kernel
theorem dX8_init_15 : decode cX8_init 15 = .ok (.newarray .int, 2) := by decide +kernel
theorem dX8_init_17 : decode cX8_init 17 = .ok (.putfield 15, 3) := by decide +kernel
theorem dX8_init_20 : decode cX8_init 20 = .ok (.aload_n 0, 1) := by decide +kernel
theorem dX8_init_21 : decode cX8_init 21 = .ok (.bipush 60, 2) := by decide +kernel
theorem dX8_init_23 : decode cX8_init 23 = .ok (.newarray .int, 2) := by decide +kernel
theorem dX8_init_25 : decode cX8_init 25 = .ok (.putfield 18, 3) := by decide +kernel
theorem dX8_init_28 : decode cX8_init 28 = .ok (.aload_n 0, 1) := by decide +kernel
theorem dX8_init_29 : decode cX8_init 29 = .ok (.bipush 60, 2) := by decide +kernel
theorem dX8_init_31 : decode cX8_init 31 = .ok (.newarray .int, 2) := by decide +kernel
theorem dX8_init_33 : decode cX8_init 33 = .ok (.putfield 21, 3) := by decide +kernel
theorem dX8_init_36 : decode cX8_init 36 = .ok (.aload_n 0, 1) := by decide +kernel
theorem dX8_init_37 : decode cX8_init 37 = .ok (.bipush 60, 2) := by decide +kernel
theorem dX8_init_39 : decode cX8_init 39 = .ok (.newarray .int, 2) := by decide +kernel
theorem dX8_init_41 : decode cX8_init 41 = .ok (.putfield 24, 3) := by decide +kernel
theorem dX8_init_44 : decode cX8_init 44 = .ok (.aload_n 0, 1) := by decide +kernel
theorem dX8_init_45 : decode cX8_init 45 = .ok (.bipush 60, 2) := by decide +kernel
theorem dX8_init_47 : decode cX8_init 47 = .ok (.newarray .int, 2) := by decide +kernel
theorem dX8_init_49 : decode cX8_init 49 = .ok (.putfield 27, 3) := by decide +kernel
theorem dX8_init_52 : decode cX8_init 52 = .ok (.aload_n 0, 1) := by decide +kernel
theorem dX8_init_53 : decode cX8_init 53 = .ok (.bipush 13, 2) := by decide +kernel
theorem dX8_init_55 : decode cX8_init 55 = .ok (.newarray .int, 2) := by decide +kernel
theorem dX8_init_57 : decode cX8_init 57 = .ok (.putfield 30, 3) := by decide +kernel
theorem dX8_init_60 : decode cX8_init 60 = .ok (.aload_n 0, 1) := by decide +kernel
theorem dX8_init_61 : decode cX8_init 61 = .ok (.bipush 13, 2) := by decide +kernel
theorem dX8_init_63 : decode cX8_init 63 = .ok (.newarray .int, 2) := by decide +kernel
theorem dX8_init_65 : decode cX8_init 65 = .ok (.putfield 33, 3) := by decide +kernel
theorem dX8_init_68 : decode cX8_init 68 = .ok (.aload_n 0, 1) := by decide +kernel
theorem dX8_init_69 : decode cX8_init 69 = .ok (.iconst 0, 1) := by decide +kernel
theorem dX8_init_70 : decode cX8_init 70 = .ok (.putfield 36, 3) := by decide +kernel
theorem dX8_init_73 : decode cX8_init 73 = .ok (.aload_n 0, 1) := by decide +kernel
theorem dX8_init_74 : decode cX8_init 74 = .ok (.iconst 0, 1) := by decide +kernel
theorem dX8_init_75 : decode cX8_init 75 = .ok (.putfield 40, 3) := by decide +kernel
theorem dX8_init_78 : decode cX8_init 78 = .ok (.return_, 1) := by decide +kernel
theorem dX8_add_0 : decode cX8_add 0 = .ok (.aload_n 0, 1) := by decide +kernel
theorem dX8_add_1 : decode cX8_add 1 = .ok (.getfield 11, 3) := by decide +kernel
theorem dX8_add_4 : decode cX8_add 4 = .ok (.aload_n 0, 1) := by decide +kernel
theorem dX8_add_5 : decode cX8_add 5 = .ok (.getfield 36, 3) := by decide +kernel
theorem dX8_add_8 : decode cX8_add 8 = .ok (.iload_n 1, 1) := by decide +kernel
theorem dX8_add_9 : decode cX8_add 9 = .ok (.iastore, 1) := by decide +kernel
theorem dX8_add_10 : decode cX8_add 10 = .ok (.aload_n 0, 1) := by decide +kernel
theorem dX8_add_11 : decode cX8_add 11 = .ok (.getfield 15, 3) := by decide +kernel
theorem dX8_add_14 : decode cX8_add 14 = .ok (.aload_n 0, 1) := by decide +kernel
theorem dX8_add_15 : decode cX8_add 15 = .ok (.getfield 36, 3) := by decide +kernel
theorem dX8_add_18 : decode cX8_add 18 = .ok (.iload_n 2, 1) := by decide +kernel
theorem dX8_add_19 : decode cX8_add 19 = .ok (.iastore, 1) := by decide +kernel
theorem dX8_add_20 : decode cX8_add 20 = .ok (.aload_n 0, 1) := by decide +kernel
theorem dX8_add_21 : decode cX8_add 21 = .ok (.getfield 18, 3) := by decide +kernel
theorem dX8_add_24 : decode cX8_add 24 = .ok (.aload_n 0, 1) := by decide +kernel
theorem dX8_add_25 : decode cX8_add 25 = .ok (.getfield 36, 3) := by decide +kernel
theorem dX8_add_28 : decode cX8_add 28 = .ok (.iload_n 3, 1) := by decide +kernel
theorem dX8_add_29 : decode cX8_add 29 = .ok (.iastore, 1) := by decide +kernel
theorem dX8_add_30 : decode cX8_add 30 = .ok (.aload_n 0, 1) := by decide +kernel
theorem dX8_add_31 : decode cX8_add 31 = .ok (.getfield 21, 3) := by decide +kernel
theorem dX8_add_34 : decode cX8_add 34 = .ok (.aload_n 0, 1) := by decide +kernel
theorem dX8_add_35 : decode cX8_add 35 = .ok (.getfield 36, 3) := by decide +kernel
theorem dX8_add_38 : decode cX8_add 38 = .ok (.iload 4, 2) := by decide +kernel
theorem dX8_add_40 : decode cX8_add 40 = .ok (.iastore, 1) := by decide +kernel
theorem dX8_add_41 : decode cX8_add 41 = .ok (.aload_n 0, 1) := by decide +kernel
theorem dX8_add_42 : decode cX8_add 42 = .ok (.getfield 24, 3) := by decide +kernel
theorem dX8_add_45 : decode cX8_add 45 = .ok (.aload_n 0, 1) := by decide +kernel
theorem dX8_add_46 : decode cX8_add 46 = .ok (.getfield 36, 3) := by decide +kernel
theorem dX8_add_49 : decode cX8_add 49 = .ok (.iconst (-1), 1) := by decide +kernel
theorem dX8_add_50 : decode cX8_add 50 = .ok (.iastore, 1) := by decide +kernel
theorem dX8_add_51 : decode cX8_add 51 = .ok (.aload_n 0, 1) := by decide +kernel
theorem dX8_add_52 : decode cX8_add 52 = .ok (.dup, 1) := by decide +kernel
theorem dX8_add_53 : decode cX8_add 53 = .ok (.getfield 36, 3) := by decide +kernel
theorem dX8_add_56 : decode cX8_add 56 = .ok (.iconst 1, 1) := by decide +kernel
theorem dX8_add_57 : decode cX8_add 57 = .ok (.iadd, 1) := by decide +kernel
theorem dX8_add_58 : decode cX8_add 58 = .ok (.putfield 36, 3) := by decide +kernel
theorem dX8_add_61 : decode cX8_add 61 = .ok (.aload_n 0, 1) := by decide +kernel
theorem dX8_add_62 : decode cX8_add 62 = .ok (.getfield 36, 3) := by decide +kernel
theorem dX8_add_65 : decode cX8_add 65 = .ok (.iconst 1, 1) := by decide +kernel
theorem dX8_add_66 : decode cX8_add 66 = .ok (.isub, 1) := by decide +kernel
theorem dX8_add_67 : decode cX8_add 67 = .ok (.ireturn, 1) := by decide +kernel
theorem dX8_takeBack_0 : decode cX8_takeBack 0 = .ok (.aload_n 0, 1) := by decide +kernel
theorem dX8_takeBack_1 : decode cX8_takeBack 1 = .ok (.getfield 24, 3) := by decide +kernel
theorem dX8_takeBack_4 : decode cX8_takeBack 4 = .ok (.iload_n 1, 1) := by decide +kernel
theorem dX8_takeBack_5 : decode cX8_takeBack 5 = .ok (.iaload, 1) := by decide +kernel
theorem dX8_takeBack_6 : decode cX8_takeBack 6 = .ok (.iconst (-1), 1) := by decide +kernel
theorem dX8_takeBack_7 : decode cX8_takeBack 7 = .ok (.if_icmp .eq 5, 3) := by decide +kernel
theorem dX8_takeBack_10 : decode cX8_takeBack 10 = .ok (.iconst 0, 1) := by decide +kernel
theorem dX8_takeBack_11 : decode cX8_takeBack 11 = .ok (.ireturn, 1) := by decide +kernel
theorem dX8_takeBack_12 : decode cX8_takeBack 12 = .ok (.aload_n 0, 1) := by decide +kernel
theorem dX8_takeBack_13 : decode cX8_takeBack 13 = .ok (.getfield 24, 3) := by decide +kernel
theorem dX8_takeBack_16 : decode cX8_takeBack 16 = .ok (.iload_n 1, 1) := by decide +kernel
theorem dX8_takeBack_17 : decode cX8_takeBack 17 = .ok (.iload_n 2, 1) := by decide +kernel
theorem dX8_takeBack_18 : decode cX8_takeBack 18 = .ok (.iastore, 1) := by decide +kernel
theorem dX8_takeBack_19 : decode cX8_takeBack 19 = .ok (.iconst 1, 1) := by decide +kernel
theorem dX8_takeBack_20 : decode cX8_takeBack 20 = .ok (.ireturn, 1) := by decide +kernel
theorem dX8_recall_0 : decode cX8_recall 0 = .ok (.aload_n 0, 1) := by decide +kernel
theorem dX8_recall_1 : decode cX8_recall 1 = .ok (.iconst 0, 1) := by decide +kernel
theorem dX8_recall_2 : decode cX8_recall 2 = .ok (.putfield 40, 3) := by decide +kernel
theorem dX8_recall_5 : decode cX8_recall 5 = .ok (.iconst 0, 1) := by decide +kernel
theorem dX8_recall_6 : decode cX8_recall 6 = .ok (.istore_n 2, 1) := by decide +kernel
theorem dX8_recall_7 : decode cX8_recall 7 = .ok (.iload_n 2, 1) := by decide +kernel
theorem dX8_recall_8 : decode cX8_recall 8 = .ok (.aload_n 0, 1) := by decide +kernel
theorem dX8_recall_9 : decode cX8_recall 9 = .ok (.getfield 36, 3) := by decide +kernel
theorem dX8_recall_12 : decode cX8_recall 12 = .ok (.if_icmp .ge 69, 3) := by decide +kernel
theorem dX8_recall_15 : decode cX8_recall 15 = .ok (.aload_n 0, 1) := by decide +kernel
theorem dX8_recall_16 : decode cX8_recall 16 = .ok (.getfield 24, 3) := by decide +kernel
theorem dX8_recall_19 : decode cX8_recall 19 = .ok (.iload_n 2, 1) := by decide +kernel
theorem dX8_recall_20 : decode cX8_recall 20 = .ok (.iaload, 1) := by decide +kernel
theorem dX8_recall_21 : decode cX8_recall 21 = .ok (.iconst (-1), 1) := by decide +kernel
theorem dX8_recall_22 : decode cX8_recall 22 = .ok (.if_icmp .eq 13, 3) := by decide +kernel
theorem dX8_recall_25 : decode cX8_recall 25 = .ok (.iload_n 1, 1) := by decide +kernel
theorem dX8_recall_26 : decode cX8_recall 26 = .ok (.aload_n 0, 1) := by decide +kernel
theorem dX8_recall_27 : decode cX8_recall 27 = .ok (.getfield 24, 3) := by decide +kernel
theorem dX8_recall_30 : decode cX8_recall 30 = .ok (.iload_n 2, 1) := by decide +kernel
theorem dX8_recall_31 : decode cX8_recall 31 = .ok (.iaload, 1) := by decide +kernel
theorem dX8_recall_32 : decode cX8_recall 32 = .ok (.if_icmp .ge 7, 3) := by decide +kernel
theorem dX8_recall_35 : decode cX8_recall 35 = .ok (.iconst 1, 1) := by decide +kernel
theorem dX8_recall_36 : decode cX8_recall 36 = .ok (.goto 4, 3) := by decide +kernel
theorem dX8_recall_39 : decode cX8_recall 39 = .ok (.iconst 0, 1) := by decide +kernel
theorem dX8_recall_40 : decode cX8_recall 40 = .ok (.istore_n 3, 1) := by decide +kernel
theorem dX8_recall_41 : decode cX8_recall 41 = .ok (.aload_n 0, 1) := by decide +kernel
theorem dX8_recall_42 : decode cX8_recall 42 = .ok (.getfield 21, 3) := by decide +kernel
theorem dX8_recall_45 : decode cX8_recall 45 = .ok (.iload_n 2, 1) := by decide +kernel
theorem dX8_recall_46 : decode cX8_recall 46 = .ok (.iaload, 1) := by decide +kernel
theorem dX8_recall_47 : decode cX8_recall 47 = .ok (.iload_n 1, 1) := by decide +kernel
theorem dX8_recall_48 : decode cX8_recall 48 = .ok (.if_icmp .gt 27, 3) := by decide +kernel
theorem dX8_recall_51 : decode cX8_recall 51 = .ok (.iload_n 3, 1) := by decide +kernel
theorem dX8_recall_52 : decode cX8_recall 52 = .ok (.ifCond .eq 23, 3) := by decide +kernel
theorem dX8_recall_55 : decode cX8_recall 55 = .ok (.aload_n 0, 1) := by decide +kernel
theorem dX8_recall_56 : decode cX8_recall 56 = .ok (.getfield 27, 3) := by decide +kernel
theorem dX8_recall_59 : decode cX8_recall 59 = .ok (.aload_n 0, 1) := by decide +kernel
theorem dX8_recall_60 : decode cX8_recall 60 = .ok (.getfield 40, 3) := by decide +kernel
theorem dX8_recall_63 : decode cX8_recall 63 = .ok (.iload_n 2, 1) := by decide +kernel
theorem dX8_recall_64 : decode cX8_recall 64 = .ok (.iastore, 1) := by decide +kernel
theorem dX8_recall_65 : decode cX8_recall 65 = .ok (.aload_n 0, 1) := by decide +kernel
theorem dX8_recall_66 : decode cX8_recall 66 = .ok (.dup, 1) := by decide +kernel
theorem dX8_recall_67 : decode cX8_recall 67 = .ok (.getfield 40, 3) := by decide +kernel
theorem dX8_recall_70 : decode cX8_recall 70 = .ok (.iconst 1, 1) := by decide +kernel
theorem dX8_recall_71 : decode cX8_recall 71 = .ok (.iadd, 1) := by decide +kernel
theorem dX8_recall_72 : decode cX8_recall 72 = .ok (.putfield 40, 3) := by decide +kernel
theorem dX8_recall_75 : decode cX8_recall 75 = .ok (.iinc 2 1, 3) := by decide +kernel
theorem dX8_recall_78 : decode cX8_recall 78 = .ok (.goto (-71), 3) := by decide +kernel
theorem dX8_recall_81 : decode cX8_recall 81 = .ok (.return_, 1) := by decide +kernel
set_option maxRecDepth 20000 in
theorem ggX8_canAllHold_X8_setAll : GoodIn wsX8_canAllHold wsX8_setAll := goodIn_sub (xc (xt1 (xl (xt4 (xh)))) (xn)) (by decide +kernel)
set_option maxRecDepth 20000 in
theorem gX8_canAllHold_X8_setAll : GoodIn wsX8_canAllHold (va_wsS RX8 43 yX8_setAll wsX8_setAll) := goodIn_app (goodIn_sub (xc (xt1 (xl (xt1 (xh)))) (xc (xt1 (xl (xt1 (xt1 (xh))))) (xc (xt1 (xl (xt1 (xt1 (xt1 (xh)))))) (xn)))) (by decide +kernel)) ggX8_canAllHold_X8_setAll
set_option maxRecDepth 20000 in
theorem ggX8_canAllHold_X8_settles : GoodIn wsX8_canAllHold wsX8_settles := goodIn_sub (xc (xt1 (xl (xt4 (xt4 (xh))))) (xa (xc (xt1 (xl (xt4 (xt4 (xt1 (xh)))))) (xc (xt1 (xl (xt4 (xt4 (xt1 (xt1 (xh))))))) (xc (xt1 (xl (xt4 (xt4 (xt1 (xt1 (xt1 (xh)))))))) (xc (xt1 (xl (xt1 (xt1 (xt1 (xh)))))) (xc (xt1 (xl (xt4 (xt4 (xt4 (xh)))))) (xc (xt1 (xl (xt4 (xt4 (xt4 (xt1 (xh))))))) (xc (xt1 (xl (xt4 (xt4 (xt4 (xt1 (xt1 (xh)))))))) (xc (xt1 (xl (xh))) (xc (xt1 (xl (xt4 (xt4 (xt4 (xt1 (xt1 (xt1 (xh))))))))) (xc (xt1 (xl (xt16 (xh)))) (xc (xt1 (xl (xt16 (xt1 (xh))))) (xc (xt1 (xl (xt16 (xt1 (xt1 (xh)))))) (xn))))))))))))) (fun _ h => xt1 (xr (h))))) (by decide +kernel)
set_option maxRecDepth 20000 in
theorem gX8_canAllHold_X8_settles : GoodIn wsX8_canAllHold (wsV RX8 47 RX8 yX8_settles wsX8_settles) := goodIn_app (goodIn_sub (xc (xt1 (xl (xt4 (xt1 (xh))))) (xc (xt1 (xl (xt4 (xt1 (xt1 (xh)))))) (xc (xt1 (xl (xt4 (xt1 (xt1 (xt1 (xh))))))) (xc (xt1 (xl (xt1 (xt1 (xt1 (xh)))))) (xn))))) (by decide +kernel)) ggX8_canAllHold_X8_settles
theorem dX8_canAllHold_0 : decode cX8_canAllHold 0 = .ok (.aload_n 0, 1) := by decide +kernel
theorem dX8_canAllHold_1 : decode cX8_canAllHold 1 = .ok (.getfield 30, 3) := by decide +kernel
theorem dX8_canAllHold_4 : decode cX8_canAllHold 4 = .ok (.iconst 0, 1) := by decide +kernel
theorem dX8_canAllHold_5 : decode cX8_canAllHold 5 = .ok (.invokestatic 43, 3) := by decide +kernel
theorem dX8_canAllHold_8 : decode cX8_canAllHold 8 = .ok (.aload_n 0, 1) := by decide +kernel
theorem dX8_canAllHold_9 : decode cX8_canAllHold 9 = .ok (.invokevirtual 47, 3) := by decide +kernel
theorem dX8_canAllHold_12 : decode cX8_canAllHold 12 = .ok (.ireturn, 1) := by decide +kernel
set_option maxRecDepth 20000 in
theorem ggX8_yearsBetween_X8_setAll : GoodIn wsX8_yearsBetween wsX8_setAll := goodIn_sub (xc (xt1 (xl (xt4 (xt1 (xh))))) (xn)) (by decide +kernel)
set_option maxRecDepth 20000 in
theorem gX8_yearsBetween_X8_setAll : GoodIn wsX8_yearsBetween (va_wsS RX8 43 yX8_setAll wsX8_setAll) := goodIn_app (goodIn_sub (xc (xt1 (xl (xt1 (xt1 (xh))))) (xc (xt1 (xl (xt1 (xt1 (xt1 (xh)))))) (xc (xt1 (xl (xt4 (xh)))) (xn)))) (by decide +kernel)) ggX8_yearsBetween_X8_setAll
set_option maxRecDepth 20000 in
theorem ggX8_yearsBetween_X8_settles : GoodIn wsX8_yearsBetween wsX8_settles := goodIn_sub (xc (xt1 (xl (xt4 (xt4 (xt1 (xh)))))) (xa (xc (xt1 (xl (xt4 (xt4 (xt1 (xt1 (xh))))))) (xc (xt1 (xl (xt4 (xt4 (xt1 (xt1 (xt1 (xh)))))))) (xc (xt1 (xl (xt4 (xt4 (xt4 (xh)))))) (xc (xt1 (xl (xt4 (xh)))) (xc (xt1 (xl (xt4 (xt4 (xt4 (xt1 (xh))))))) (xc (xt1 (xl (xt4 (xt4 (xt4 (xt1 (xt1 (xh)))))))) (xc (xt1 (xl (xt4 (xt4 (xt4 (xt1 (xt1 (xt1 (xh))))))))) (xc (xt1 (xl (xh))) (xc (xt1 (xl (xt16 (xh)))) (xc (xt1 (xl (xt1 (xh)))) (xc (xt1 (xl (xt16 (xt1 (xh))))) (xc (xt1 (xl (xt16 (xt1 (xt1 (xh)))))) (xn))))))))))))) (fun _ h => xt1 (xr (h))))) (by decide +kernel)
set_option maxRecDepth 20000 in
theorem gX8_yearsBetween_X8_settles : GoodIn wsX8_yearsBetween (wsV RX8 47 RX8 yX8_settles wsX8_settles) := goodIn_app (goodIn_sub (xc (xt1 (xl (xt4 (xt1 (xt1 (xh)))))) (xc (xt1 (xl (xt4 (xt1 (xt1 (xt1 (xh))))))) (xc (xt1 (xl (xt4 (xt4 (xh))))) (xc (xt1 (xl (xt4 (xh)))) (xn))))) (by decide +kernel)) ggX8_yearsBetween_X8_settles
theorem dX8_yearsBetween_0 : decode cX8_yearsBetween 0 = .ok (.aload_n 0, 1) := by decide +kernel
theorem dX8_yearsBetween_1 : decode cX8_yearsBetween 1 = .ok (.getfield 30, 3) := by decide +kernel
theorem dX8_yearsBetween_4 : decode cX8_yearsBetween 4 = .ok (.ldc 51, 2) := by decide +kernel
theorem dX8_yearsBetween_6 : decode cX8_yearsBetween 6 = .ok (.invokestatic 43, 3) := by decide +kernel
theorem dX8_yearsBetween_9 : decode cX8_yearsBetween 9 = .ok (.aload_n 0, 1) := by decide +kernel
theorem dX8_yearsBetween_10 : decode cX8_yearsBetween 10 = .ok (.getfield 30, 3) := by decide +kernel
theorem dX8_yearsBetween_13 : decode cX8_yearsBetween 13 = .ok (.iload_n 1, 1) := by decide +kernel
theorem dX8_yearsBetween_14 : decode cX8_yearsBetween 14 = .ok (.iconst 0, 1) := by decide +kernel
theorem dX8_yearsBetween_15 : decode cX8_yearsBetween 15 = .ok (.iastore, 1) := by decide +kernel
theorem dX8_yearsBetween_16 : decode cX8_yearsBetween 16 = .ok (.aload_n 0, 1) := by decide +kernel
theorem dX8_yearsBetween_17 : decode cX8_yearsBetween 17 = .ok (.invokevirtual 47, 3) := by decide +kernel
theorem dX8_yearsBetween_20 : decode cX8_yearsBetween 20 = .ok (.pop, 1) := by decide +kernel
theorem dX8_yearsBetween_21 : decode cX8_yearsBetween 21 = .ok (.aload_n 0, 1) := by decide +kernel
theorem dX8_yearsBetween_22 : decode cX8_yearsBetween 22 = .ok (.getfield 30, 3) := by decide +kernel
theorem dX8_yearsBetween_25 : decode cX8_yearsBetween 25 = .ok (.iload_n 2, 1) := by decide +kernel
theorem dX8_yearsBetween_26 : decode cX8_yearsBetween 26 = .ok (.iaload, 1) := by decide +kernel
theorem dX8_yearsBetween_27 : decode cX8_yearsBetween 27 = .ok (.ireturn, 1) := by decide +kernel
set_option maxRecDepth 20000 in
theorem ggX8_settles_X8_pushOn : GoodIn wsX8_settles wsX8_pushOn := goodIn_sub (xc (xt1 (xl (xt4 (xh)))) (xa (xc (xt1 (xl (xt4 (xt1 (xh))))) (xc (xt1 (xl (xt4 (xt1 (xt1 (xh)))))) (xc (xt1 (xl (xt4 (xt1 (xt1 (xt1 (xh))))))) (xc (xt1 (xl (xt4 (xt4 (xh))))) (xc (xt1 (xl (xt4 (xt4 (xt1 (xh)))))) (xc (xt1 (xl (xt4 (xt4 (xt1 (xt1 (xh))))))) (xc (xt1 (xl (xt4 (xt4 (xt1 (xt1 (xt1 (xh)))))))) (xn)))))))) (fun _ h => xt1 (xr (h))))) (by decide +kernel)
set_option maxRecDepth 20000 in
theorem gX8_settles_X8_pushOn : GoodIn wsX8_settles (wsV RX8 52 RX8 yX8_pushOn wsX8_pushOn) := goodIn_app (goodIn_sub (xc (xt1 (xl (xh))) (xc (xt1 (xl (xt1 (xh)))) (xc (xt1 (xl (xt1 (xt1 (xh))))) (xc (xt1 (xl (xt1 (xt1 (xt1 (xh)))))) (xn))))) (by decide +kernel)) ggX8_settles_X8_pushOn
theorem dX8_settles_0 : decode cX8_settles 0 = .ok (.iconst 0, 1) := by decide +kernel
theorem dX8_settles_1 : decode cX8_settles 1 = .ok (.istore_n 1, 1) := by decide +kernel
theorem dX8_settles_2 : decode cX8_settles 2 = .ok (.iload_n 1, 1) := by decide +kernel
theorem dX8_settles_3 : decode cX8_settles 3 = .ok (.bipush 13, 2) := by decide +kernel
theorem dX8_settles_5 : decode cX8_settles 5 = .ok (.if_icmp .ge 18, 3) := by decide +kernel
theorem dX8_settles_8 : decode cX8_settles 8 = .ok (.aload_n 0, 1) := by decide +kernel
theorem dX8_settles_9 : decode cX8_settles 9 = .ok (.invokevirtual 52, 3) := by decide +kernel
theorem dX8_settles_12 : decode cX8_settles 12 = .ok (.ifCond .ne 5, 3) := by decide +kernel
theorem dX8_settles_15 : decode cX8_settles 15 = .ok (.iconst 1, 1) := by decide +kernel
theorem dX8_settles_16 : decode cX8_settles 16 = .ok (.ireturn, 1) := by decide +kernel
theorem dX8_settles_17 : decode cX8_settles 17 = .ok (.iinc 1 1, 3) := by decide +kernel
theorem dX8_settles_20 : decode cX8_settles 20 = .ok (.goto (-18), 3) := by decide +kernel
theorem dX8_settles_23 : decode cX8_settles 23 = .ok (.iconst 0, 1) := by decide +kernel
theorem dX8_settles_24 : decode cX8_settles 24 = .ok (.ireturn, 1) := by decide +kernel
theorem dX8_pushOn_0 : decode cX8_pushOn 0 = .ok (.iconst 0, 1) := by decide +kernel
theorem dX8_pushOn_1 : decode cX8_pushOn 1 = .ok (.istore_n 1, 1) := by decide +kernel
theorem dX8_pushOn_2 : decode cX8_pushOn 2 = .ok (.iconst 0, 1) := by decide +kernel
theorem dX8_pushOn_3 : decode cX8_pushOn 3 = .ok (.istore_n 2, 1) := by decide +kernel
theorem dX8_pushOn_4 : decode cX8_pushOn 4 = .ok (.iload_n 2, 1) := by decide +kernel
theorem dX8_pushOn_5 : decode cX8_pushOn 5 = .ok (.aload_n 0, 1) := by decide +kernel
theorem dX8_pushOn_6 : decode cX8_pushOn 6 = .ok (.getfield 40, 3) := by decide +kernel
theorem dX8_pushOn_9 : decode cX8_pushOn 9 = .ok (.if_icmp .ge 81, 3) := by decide +kernel
theorem dX8_pushOn_12 : decode cX8_pushOn 12 = .ok (.aload_n 0, 1) := by decide +kernel
theorem dX8_pushOn_13 : decode cX8_pushOn 13 = .ok (.getfield 27, 3) := by decide +kernel
theorem dX8_pushOn_16 : decode cX8_pushOn 16 = .ok (.iload_n 2, 1) := by decide +kernel
theorem dX8_pushOn_17 : decode cX8_pushOn 17 = .ok (.iaload, 1) := by decide +kernel
theorem dX8_pushOn_18 : decode cX8_pushOn 18 = .ok (.istore_n 3, 1) := by decide +kernel
theorem dX8_pushOn_19 : decode cX8_pushOn 19 = .ok (.aload_n 0, 1) := by decide +kernel
theorem dX8_pushOn_20 : decode cX8_pushOn 20 = .ok (.getfield 30, 3) := by decide +kernel
theorem dX8_pushOn_23 : decode cX8_pushOn 23 = .ok (.aload_n 0, 1) := by decide +kernel
theorem dX8_pushOn_24 : decode cX8_pushOn 24 = .ok (.getfield 11, 3) := by decide +kernel
theorem dX8_pushOn_27 : decode cX8_pushOn 27 = .ok (.iload_n 3, 1) := by decide +kernel
theorem dX8_pushOn_28 : decode cX8_pushOn 28 = .ok (.iaload, 1) := by decide +kernel
theorem dX8_pushOn_29 : decode cX8_pushOn 29 = .ok (.iaload, 1) := by decide +kernel
theorem dX8_pushOn_30 : decode cX8_pushOn 30 = .ok (.istore 4, 2) := by decide +kernel
theorem dX8_pushOn_32 : decode cX8_pushOn 32 = .ok (.iload 4, 2) := by decide +kernel
theorem dX8_pushOn_34 : decode cX8_pushOn 34 = .ok (.ldc 51, 2) := by decide +kernel
theorem dX8_pushOn_36 : decode cX8_pushOn 36 = .ok (.if_icmp .eq 48, 3) := by decide +kernel
theorem dX8_pushOn_39 : decode cX8_pushOn 39 = .ok (.iload 4, 2) := by decide +kernel
theorem dX8_pushOn_41 : decode cX8_pushOn 41 = .ok (.aload_n 0, 1) := by decide +kernel
theorem dX8_pushOn_42 : decode cX8_pushOn 42 = .ok (.getfield 18, 3) := by decide +kernel
theorem dX8_pushOn_45 : decode cX8_pushOn 45 = .ok (.iload_n 3, 1) := by decide +kernel
theorem dX8_pushOn_46 : decode cX8_pushOn 46 = .ok (.iaload, 1) := by decide +kernel
theorem dX8_pushOn_47 : decode cX8_pushOn 47 = .ok (.iadd, 1) := by decide +kernel
theorem dX8_pushOn_48 : decode cX8_pushOn 48 = .ok (.aload_n 0, 1) := by decide +kernel
theorem dX8_pushOn_49 : decode cX8_pushOn 49 = .ok (.getfield 30, 3) := by decide +kernel
theorem dX8_pushOn_52 : decode cX8_pushOn 52 = .ok (.aload_n 0, 1) := by decide +kernel
theorem dX8_pushOn_53 : decode cX8_pushOn 53 = .ok (.getfield 15, 3) := by decide +kernel
theorem dX8_pushOn_56 : decode cX8_pushOn 56 = .ok (.iload_n 3, 1) := by decide +kernel
theorem dX8_pushOn_57 : decode cX8_pushOn 57 = .ok (.iaload, 1) := by decide +kernel
theorem dX8_pushOn_58 : decode cX8_pushOn 58 = .ok (.iaload, 1) := by decide +kernel
theorem dX8_pushOn_59 : decode cX8_pushOn 59 = .ok (.if_icmp .le 25, 3) := by decide +kernel
theorem dX8_pushOn_62 : decode cX8_pushOn 62 = .ok (.aload_n 0, 1) := by decide +kernel
theorem dX8_pushOn_63 : decode cX8_pushOn 63 = .ok (.getfield 30, 3) := by decide +kernel
theorem dX8_pushOn_66 : decode cX8_pushOn 66 = .ok (.aload_n 0, 1) := by decide +kernel
theorem dX8_pushOn_67 : decode cX8_pushOn 67 = .ok (.getfield 15, 3) := by decide +kernel
theorem dX8_pushOn_70 : decode cX8_pushOn 70 = .ok (.iload_n 3, 1) := by decide +kernel
theorem dX8_pushOn_71 : decode cX8_pushOn 71 = .ok (.iaload, 1) := by decide +kernel
theorem dX8_pushOn_72 : decode cX8_pushOn 72 = .ok (.iload 4, 2) := by decide +kernel
theorem dX8_pushOn_74 : decode cX8_pushOn 74 = .ok (.aload_n 0, 1) := by decide +kernel
theorem dX8_pushOn_75 : decode cX8_pushOn 75 = .ok (.getfield 18, 3) := by decide +kernel
theorem dX8_pushOn_78 : decode cX8_pushOn 78 = .ok (.iload_n 3, 1) := by decide +kernel
theorem dX8_pushOn_79 : decode cX8_pushOn 79 = .ok (.iaload, 1) := by decide +kernel
theorem dX8_pushOn_80 : decode cX8_pushOn 80 = .ok (.iadd, 1) := by decide +kernel
theorem dX8_pushOn_81 : decode cX8_pushOn 81 = .ok (.iastore, 1) := by decide +kernel
theorem dX8_pushOn_82 : decode cX8_pushOn 82 = .ok (.iconst 1, 1) := by decide +kernel
theorem dX8_pushOn_83 : decode cX8_pushOn 83 = .ok (.istore_n 1, 1) := by decide +kernel
theorem dX8_pushOn_84 : decode cX8_pushOn 84 = .ok (.iinc 2 1, 3) := by decide +kernel
theorem dX8_pushOn_87 : decode cX8_pushOn 87 = .ok (.goto (-83), 3) := by decide +kernel
theorem dX8_pushOn_90 : decode cX8_pushOn 90 = .ok (.iload_n 1, 1) := by decide +kernel
theorem dX8_pushOn_91 : decode cX8_pushOn 91 = .ok (.ireturn, 1) := by decide +kernel
set_option maxRecDepth 20000 in
theorem ggX8_fewestThatQuarrel_X8_ringThrough : GoodIn wsX8_fewestThatQuarrel wsX8_ringThrough := goodIn_sub (xc (xt1 (xl (xt4 (xh)))) (xa (xc (xt1 (xl (xt4 (xt1 (xh))))) (xc (xt1 (xl (xt4 (xt1 (xt1 (xh)))))) (xc (xt1 (xl (xt4 (xt1 (xt1 (xt1 (xh))))))) (xc (xt1 (xl (xt4 (xt4 (xh))))) (xc (xt1 (xl (xt1 (xt1 (xt1 (xh)))))) (xc (xt1 (xl (xt4 (xt4 (xt1 (xh)))))) (xc (xt1 (xl (xt4 (xt4 (xt1 (xt1 (xh))))))) (xc (xt1 (xl (xt4 (xt4 (xt1 (xt1 (xt1 (xh)))))))) (xc (xt1 (xl (xt4 (xt4 (xt4 (xh)))))) (xc (xt1 (xl (xt4 (xt4 (xt4 (xt1 (xh))))))) (xc (xt1 (xl (xt4 (xt4 (xt4 (xt1 (xt1 (xh)))))))) (xc (xt1 (xl (xt4 (xt4 (xt4 (xt1 (xt1 (xt1 (xh))))))))) (xc (xt1 (xl (xt16 (xh)))) (xc (xt1 (xl (xt16 (xt1 (xh))))) (xc (xt1 (xl (xt16 (xt1 (xt1 (xh)))))) (xc (xt1 (xl (xt16 (xt1 (xt1 (xt1 (xh))))))) (xc (xt1 (xl (xt16 (xt4 (xh))))) (xc (xt1 (xl (xt16 (xt4 (xt1 (xh)))))) (xc (xt1 (xl (xt16 (xt4 (xt1 (xt1 (xh))))))) (xc (xt1 (xl (xt16 (xt4 (xt1 (xt1 (xt1 (xh)))))))) (xn))))))))))))))))))))) (fun _ h => xt1 (xr (h))))) (by decide +kernel)
set_option maxRecDepth 20000 in
theorem gX8_fewestThatQuarrel_X8_ringThrough : GoodIn wsX8_fewestThatQuarrel (wsV RX8 55 RX8 yX8_ringThrough wsX8_ringThrough) := goodIn_app (goodIn_sub (xc (xt1 (xl (xh))) (xc (xt1 (xl (xt1 (xh)))) (xc (xt1 (xl (xt1 (xt1 (xh))))) (xc (xt1 (xl (xt1 (xt1 (xt1 (xh)))))) (xn))))) (by decide +kernel)) ggX8_fewestThatQuarrel_X8_ringThrough
theorem dX8_fewestThatQuarrel_0 : decode cX8_fewestThatQuarrel 0 = .ok (.bipush 14, 2) := by decide +kernel
theorem dX8_fewestThatQuarrel_2 : decode cX8_fewestThatQuarrel 2 = .ok (.istore_n 1, 1) := by decide +kernel
theorem dX8_fewestThatQuarrel_3 : decode cX8_fewestThatQuarrel 3 = .ok (.iconst 0, 1) := by decide +kernel
theorem dX8_fewestThatQuarrel_4 : decode cX8_fewestThatQuarrel 4 = .ok (.istore_n 2, 1) := by decide +kernel
theorem dX8_fewestThatQuarrel_5 : decode cX8_fewestThatQuarrel 5 = .ok (.iload_n 2, 1) := by decide +kernel
theorem dX8_fewestThatQuarrel_6 : decode cX8_fewestThatQuarrel 6 = .ok (.bipush 13, 2) := by decide +kernel
theorem dX8_fewestThatQuarrel_8 : decode cX8_fewestThatQuarrel 8 = .ok (.if_icmp .ge 16, 3) := by decide +kernel
theorem dX8_fewestThatQuarrel_11 : decode cX8_fewestThatQuarrel 11 = .ok (.aload_n 0, 1) := by decide +kernel
theorem dX8_fewestThatQuarrel_12 : decode cX8_fewestThatQuarrel 12 = .ok (.iload_n 2, 1) := by decide +kernel
theorem dX8_fewestThatQuarrel_13 : decode cX8_fewestThatQuarrel 13 = .ok (.iload_n 1, 1) := by decide +kernel
theorem dX8_fewestThatQuarrel_14 : decode cX8_fewestThatQuarrel 14 = .ok (.invokevirtual 55, 3) := by decide +kernel
theorem dX8_fewestThatQuarrel_17 : decode cX8_fewestThatQuarrel 17 = .ok (.istore_n 1, 1) := by decide +kernel
theorem dX8_fewestThatQuarrel_18 : decode cX8_fewestThatQuarrel 18 = .ok (.iinc 2 1, 3) := by decide +kernel
theorem dX8_fewestThatQuarrel_21 : decode cX8_fewestThatQuarrel 21 = .ok (.goto (-16), 3) := by decide +kernel
theorem dX8_fewestThatQuarrel_24 : decode cX8_fewestThatQuarrel 24 = .ok (.iload_n 1, 1) := by decide +kernel
theorem dX8_fewestThatQuarrel_25 : decode cX8_fewestThatQuarrel 25 = .ok (.ireturn, 1) := by decide +kernel
set_option maxRecDepth 20000 in
theorem ggX8_ringThrough_X8_setAll : GoodIn wsX8_ringThrough wsX8_setAll := goodIn_sub (xc (xt1 (xl (xt4 (xt1 (xh))))) (xn)) (by decide +kernel)
set_option maxRecDepth 20000 in
theorem gX8_ringThrough_X8_setAll : GoodIn wsX8_ringThrough (va_wsS RX8 43 yX8_setAll wsX8_setAll) := goodIn_app (goodIn_sub (xc (xt1 (xl (xt1 (xt1 (xh))))) (xc (xt1 (xl (xt1 (xt1 (xt1 (xh)))))) (xc (xt1 (xl (xt4 (xh)))) (xn)))) (by decide +kernel)) ggX8_ringThrough_X8_setAll
set_option maxRecDepth 20000 in
theorem ggX8_ringThrough_X8_stepOn : GoodIn wsX8_ringThrough wsX8_stepOn := goodIn_sub (xc (xt1 (xl (xt4 (xt4 (xt1 (xh)))))) (xa (xc (xt1 (xl (xt4 (xt4 (xt1 (xt1 (xh))))))) (xc (xt1 (xl (xt1 (xh)))) (xc (xt1 (xl (xt4 (xt4 (xt1 (xt1 (xt1 (xh)))))))) (xc (xt1 (xl (xt4 (xt4 (xt4 (xh)))))) (xc (xt1 (xl (xh))) (xc (xt1 (xl (xt4 (xt4 (xt4 (xt1 (xh))))))) (xc (xt1 (xl (xt4 (xt4 (xt4 (xt1 (xt1 (xh)))))))) (xc (xt1 (xl (xt4 (xt4 (xt4 (xt1 (xt1 (xt1 (xh))))))))) (xc (xt1 (xl (xt16 (xh)))) (xc (xt1 (xl (xt16 (xt1 (xh))))) (xc (xt1 (xl (xt16 (xt1 (xt1 (xh)))))) (xc (xt1 (xl (xt16 (xt1 (xt1 (xt1 (xh))))))) (xc (xt1 (xl (xt1 (xt1 (xh))))) (xc (xt1 (xl (xt1 (xt1 (xt1 (xh)))))) (xc (xt1 (xl (xt4 (xh)))) (xc (xt1 (xl (xt4 (xt1 (xh))))) (xn))))))))))))))))) (fun _ h => xt1 (xr (h))))) (by decide +kernel)
set_option maxRecDepth 20000 in
theorem gX8_ringThrough_X8_stepOn : GoodIn wsX8_ringThrough (wsV RX8 59 RX8 yX8_stepOn wsX8_stepOn) := goodIn_app (goodIn_sub (xc (xt1 (xl (xt4 (xt1 (xt1 (xh)))))) (xc (xt1 (xl (xt4 (xt1 (xt1 (xt1 (xh))))))) (xc (xt1 (xl (xt4 (xt4 (xh))))) (xc (xt1 (xl (xt4 (xh)))) (xn))))) (by decide +kernel)) ggX8_ringThrough_X8_stepOn
theorem dX8_ringThrough_0 : decode cX8_ringThrough 0 = .ok (.aload_n 0, 1) := by decide +kernel
theorem dX8_ringThrough_1 : decode cX8_ringThrough 1 = .ok (.getfield 30, 3) := by decide +kernel
theorem dX8_ringThrough_4 : decode cX8_ringThrough 4 = .ok (.ldc 51, 2) := by decide +kernel
theorem dX8_ringThrough_6 : decode cX8_ringThrough 6 = .ok (.invokestatic 43, 3) := by decide +kernel
theorem dX8_ringThrough_9 : decode cX8_ringThrough 9 = .ok (.aload_n 0, 1) := by decide +kernel
theorem dX8_ringThrough_10 : decode cX8_ringThrough 10 = .ok (.getfield 30, 3) := by decide +kernel
theorem dX8_ringThrough_13 : decode cX8_ringThrough 13 = .ok (.iload_n 1, 1) := by decide +kernel
theorem dX8_ringThrough_14 : decode cX8_ringThrough 14 = .ok (.iconst 0, 1) := by decide +kernel
theorem dX8_ringThrough_15 : decode cX8_ringThrough 15 = .ok (.iastore, 1) := by decide +kernel
theorem dX8_ringThrough_16 : decode cX8_ringThrough 16 = .ok (.iconst 1, 1) := by decide +kernel
theorem dX8_ringThrough_17 : decode cX8_ringThrough 17 = .ok (.istore_n 3, 1) := by decide +kernel
theorem dX8_ringThrough_18 : decode cX8_ringThrough 18 = .ok (.iload_n 3, 1) := by decide +kernel
theorem dX8_ringThrough_19 : decode cX8_ringThrough 19 = .ok (.iload_n 2, 1) := by decide +kernel
theorem dX8_ringThrough_20 : decode cX8_ringThrough 20 = .ok (.if_icmp .ge 24, 3) := by decide +kernel
theorem dX8_ringThrough_23 : decode cX8_ringThrough 23 = .ok (.aload_n 0, 1) := by decide +kernel
theorem dX8_ringThrough_24 : decode cX8_ringThrough 24 = .ok (.invokevirtual 59, 3) := by decide +kernel
theorem dX8_ringThrough_27 : decode cX8_ringThrough 27 = .ok (.aload_n 0, 1) := by decide +kernel
theorem dX8_ringThrough_28 : decode cX8_ringThrough 28 = .ok (.getfield 30, 3) := by decide +kernel
theorem dX8_ringThrough_31 : decode cX8_ringThrough 31 = .ok (.iload_n 1, 1) := by decide +kernel
theorem dX8_ringThrough_32 : decode cX8_ringThrough 32 = .ok (.iaload, 1) := by decide +kernel
theorem dX8_ringThrough_33 : decode cX8_ringThrough 33 = .ok (.ifCond .le 5, 3) := by decide +kernel
theorem dX8_ringThrough_36 : decode cX8_ringThrough 36 = .ok (.iload_n 3, 1) := by decide +kernel
theorem dX8_ringThrough_37 : decode cX8_ringThrough 37 = .ok (.ireturn, 1) := by decide +kernel
theorem dX8_ringThrough_38 : decode cX8_ringThrough 38 = .ok (.iinc 3 1, 3) := by decide +kernel
theorem dX8_ringThrough_41 : decode cX8_ringThrough 41 = .ok (.goto (-23), 3) := by decide +kernel
theorem dX8_ringThrough_44 : decode cX8_ringThrough 44 = .ok (.iload_n 2, 1) := by decide +kernel
theorem dX8_ringThrough_45 : decode cX8_ringThrough 45 = .ok (.ireturn, 1) := by decide +kernel
set_option maxRecDepth 20000 in
theorem ggX8_stepOn_X8_setAll : GoodIn wsX8_stepOn wsX8_setAll := goodIn_sub (xc (xt1 (xl (xt4 (xt4 (xt4 (xt1 (xt1 (xt1 (xh))))))))) (xn)) (by decide +kernel)
set_option maxRecDepth 20000 in
theorem gX8_stepOn_X8_setAll : GoodIn wsX8_stepOn (va_wsS RX8 43 yX8_setAll wsX8_setAll) := goodIn_app (goodIn_sub (xc (xt1 (xl (xt4 (xt4 (xt4 (xh)))))) (xc (xt1 (xl (xt4 (xt4 (xt4 (xt1 (xh))))))) (xc (xt1 (xl (xt4 (xt4 (xt4 (xt1 (xt1 (xh)))))))) (xn)))) (by decide +kernel)) ggX8_stepOn_X8_setAll
theorem dX8_stepOn_0 : decode cX8_stepOn 0 = .ok (.aload_n 0, 1) := by decide +kernel
theorem dX8_stepOn_1 : decode cX8_stepOn 1 = .ok (.getfield 33, 3) := by decide +kernel
theorem dX8_stepOn_4 : decode cX8_stepOn 4 = .ok (.ldc 51, 2) := by decide +kernel
theorem dX8_stepOn_6 : decode cX8_stepOn 6 = .ok (.invokestatic 43, 3) := by decide +kernel
theorem dX8_stepOn_9 : decode cX8_stepOn 9 = .ok (.iconst 0, 1) := by decide +kernel
theorem dX8_stepOn_10 : decode cX8_stepOn 10 = .ok (.istore_n 1, 1) := by decide +kernel
theorem dX8_stepOn_11 : decode cX8_stepOn 11 = .ok (.iload_n 1, 1) := by decide +kernel
theorem dX8_stepOn_12 : decode cX8_stepOn 12 = .ok (.aload_n 0, 1) := by decide +kernel
theorem dX8_stepOn_13 : decode cX8_stepOn 13 = .ok (.getfield 40, 3) := by decide +kernel
theorem dX8_stepOn_16 : decode cX8_stepOn 16 = .ok (.if_icmp .ge 75, 3) := by decide +kernel
theorem dX8_stepOn_19 : decode cX8_stepOn 19 = .ok (.aload_n 0, 1) := by decide +kernel
theorem dX8_stepOn_20 : decode cX8_stepOn 20 = .ok (.getfield 27, 3) := by decide +kernel
theorem dX8_stepOn_23 : decode cX8_stepOn 23 = .ok (.iload_n 1, 1) := by decide +kernel
theorem dX8_stepOn_24 : decode cX8_stepOn 24 = .ok (.iaload, 1) := by decide +kernel
theorem dX8_stepOn_25 : decode cX8_stepOn 25 = .ok (.istore_n 2, 1) := by decide +kernel
theorem dX8_stepOn_26 : decode cX8_stepOn 26 = .ok (.aload_n 0, 1) := by decide +kernel
theorem dX8_stepOn_27 : decode cX8_stepOn 27 = .ok (.getfield 30, 3) := by decide +kernel
theorem dX8_stepOn_30 : decode cX8_stepOn 30 = .ok (.aload_n 0, 1) := by decide +kernel
theorem dX8_stepOn_31 : decode cX8_stepOn 31 = .ok (.getfield 11, 3) := by decide +kernel
theorem dX8_stepOn_34 : decode cX8_stepOn 34 = .ok (.iload_n 2, 1) := by decide +kernel
theorem dX8_stepOn_35 : decode cX8_stepOn 35 = .ok (.iaload, 1) := by decide +kernel
theorem dX8_stepOn_36 : decode cX8_stepOn 36 = .ok (.iaload, 1) := by decide +kernel
theorem dX8_stepOn_37 : decode cX8_stepOn 37 = .ok (.istore_n 3, 1) := by decide +kernel
theorem dX8_stepOn_38 : decode cX8_stepOn 38 = .ok (.iload_n 3, 1) := by decide +kernel
theorem dX8_stepOn_39 : decode cX8_stepOn 39 = .ok (.ldc 51, 2) := by decide +kernel
theorem dX8_stepOn_41 : decode cX8_stepOn 41 = .ok (.if_icmp .eq 44, 3) := by decide +kernel
theorem dX8_stepOn_44 : decode cX8_stepOn 44 = .ok (.iload_n 3, 1) := by decide +kernel
theorem dX8_stepOn_45 : decode cX8_stepOn 45 = .ok (.aload_n 0, 1) := by decide +kernel
theorem dX8_stepOn_46 : decode cX8_stepOn 46 = .ok (.getfield 18, 3) := by decide +kernel
theorem dX8_stepOn_49 : decode cX8_stepOn 49 = .ok (.iload_n 2, 1) := by decide +kernel
theorem dX8_stepOn_50 : decode cX8_stepOn 50 = .ok (.iaload, 1) := by decide +kernel
theorem dX8_stepOn_51 : decode cX8_stepOn 51 = .ok (.iadd, 1) := by decide +kernel
theorem dX8_stepOn_52 : decode cX8_stepOn 52 = .ok (.aload_n 0, 1) := by decide +kernel
theorem dX8_stepOn_53 : decode cX8_stepOn 53 = .ok (.getfield 33, 3) := by decide +kernel
theorem dX8_stepOn_56 : decode cX8_stepOn 56 = .ok (.aload_n 0, 1) := by decide +kernel
theorem dX8_stepOn_57 : decode cX8_stepOn 57 = .ok (.getfield 15, 3) := by decide +kernel
theorem dX8_stepOn_60 : decode cX8_stepOn 60 = .ok (.iload_n 2, 1) := by decide +kernel
theorem dX8_stepOn_61 : decode cX8_stepOn 61 = .ok (.iaload, 1) := by decide +kernel
theorem dX8_stepOn_62 : decode cX8_stepOn 62 = .ok (.iaload, 1) := by decide +kernel
theorem dX8_stepOn_63 : decode cX8_stepOn 63 = .ok (.if_icmp .le 22, 3) := by decide +kernel
theorem dX8_stepOn_66 : decode cX8_stepOn 66 = .ok (.aload_n 0, 1) := by decide +kernel
theorem dX8_stepOn_67 : decode cX8_stepOn 67 = .ok (.getfield 33, 3) := by decide +kernel
theorem dX8_stepOn_70 : decode cX8_stepOn 70 = .ok (.aload_n 0, 1) := by decide +kernel
theorem dX8_stepOn_71 : decode cX8_stepOn 71 = .ok (.getfield 15, 3) := by decide +kernel
theorem dX8_stepOn_74 : decode cX8_stepOn 74 = .ok (.iload_n 2, 1) := by decide +kernel
theorem dX8_stepOn_75 : decode cX8_stepOn 75 = .ok (.iaload, 1) := by decide +kernel
theorem dX8_stepOn_76 : decode cX8_stepOn 76 = .ok (.iload_n 3, 1) := by decide +kernel
theorem dX8_stepOn_77 : decode cX8_stepOn 77 = .ok (.aload_n 0, 1) := by decide +kernel
theorem dX8_stepOn_78 : decode cX8_stepOn 78 = .ok (.getfield 18, 3) := by decide +kernel
theorem dX8_stepOn_81 : decode cX8_stepOn 81 = .ok (.iload_n 2, 1) := by decide +kernel
theorem dX8_stepOn_82 : decode cX8_stepOn 82 = .ok (.iaload, 1) := by decide +kernel
theorem dX8_stepOn_83 : decode cX8_stepOn 83 = .ok (.iadd, 1) := by decide +kernel
theorem dX8_stepOn_84 : decode cX8_stepOn 84 = .ok (.iastore, 1) := by decide +kernel
theorem dX8_stepOn_85 : decode cX8_stepOn 85 = .ok (.iinc 1 1, 3) := by decide +kernel
theorem dX8_stepOn_88 : decode cX8_stepOn 88 = .ok (.goto (-77), 3) := by decide +kernel
theorem dX8_stepOn_91 : decode cX8_stepOn 91 = .ok (.aload_n 0, 1) := by decide +kernel
theorem dX8_stepOn_92 : decode cX8_stepOn 92 = .ok (.getfield 33, 3) := by decide +kernel
theorem dX8_stepOn_95 : decode cX8_stepOn 95 = .ok (.iconst 0, 1) := by decide +kernel
theorem dX8_stepOn_96 : decode cX8_stepOn 96 = .ok (.aload_n 0, 1) := by decide +kernel
theorem dX8_stepOn_97 : decode cX8_stepOn 97 = .ok (.getfield 30, 3) := by decide +kernel
theorem dX8_stepOn_100 : decode cX8_stepOn 100 = .ok (.iconst 0, 1) := by decide +kernel
theorem dX8_stepOn_101 : decode cX8_stepOn 101 = .ok (.bipush 13, 2) := by decide +kernel
theorem dX8_stepOn_103 : decode cX8_stepOn 103 = .ok (.invokestatic 62, 3) := by decide +kernel
theorem dX8_stepOn_106 : decode cX8_stepOn 106 = .ok (.return_, 1) := by decide +kernel
theorem dX8_setAll_0 : decode cX8_setAll 0 = .ok (.iconst 0, 1) := by decide +kernel
theorem dX8_setAll_1 : decode cX8_setAll 1 = .ok (.istore_n 2, 1) := by decide +kernel
theorem dX8_setAll_2 : decode cX8_setAll 2 = .ok (.iload_n 2, 1) := by decide +kernel
theorem dX8_setAll_3 : decode cX8_setAll 3 = .ok (.aload_n 0, 1) := by decide +kernel
theorem dX8_setAll_4 : decode cX8_setAll 4 = .ok (.arraylength, 1) := by decide +kernel
theorem dX8_setAll_5 : decode cX8_setAll 5 = .ok (.if_icmp .ge 13, 3) := by decide +kernel
theorem dX8_setAll_8 : decode cX8_setAll 8 = .ok (.aload_n 0, 1) := by decide +kernel
theorem dX8_setAll_9 : decode cX8_setAll 9 = .ok (.iload_n 2, 1) := by decide +kernel
theorem dX8_setAll_10 : decode cX8_setAll 10 = .ok (.iload_n 1, 1) := by decide +kernel
theorem dX8_setAll_11 : decode cX8_setAll 11 = .ok (.iastore, 1) := by decide +kernel
theorem dX8_setAll_12 : decode cX8_setAll 12 = .ok (.iinc 2 1, 3) := by decide +kernel
theorem dX8_setAll_15 : decode cX8_setAll 15 = .ok (.goto (-13), 3) := by decide +kernel
theorem dX8_setAll_18 : decode cX8_setAll 18 = .ok (.return_, 1) := by decide +kernel
