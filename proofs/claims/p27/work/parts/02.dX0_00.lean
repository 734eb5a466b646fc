theorem dX0_init_0 : decode cX0_init 0 = .ok (.aload_n 0, 1) := by decide +kernel
theorem dX0_init_1 : decode cX0_init 1 = .ok (.invokespecial 3, 3) := by decide +kernel
theorem dX0_init_4 : decode cX0_init 4 = .ok (.aload_n 0, 1) := by decide +kernel
theorem dX0_init_5 : decode cX0_init 5 = .ok (.aload_n 1, 1) := by decide +kernel
theorem dX0_init_6 : decode cX0_init 6 = .ok (.putfield 9, 3) := by decide +kernel
theorem dX0_init_9 : decode cX0_init 9 = .ok (.aload_n 0, 1) := by decide +kernel
theorem dX0_init_10 : decode cX0_init 10 = .ok (.sipush 240, 3) := by decide +kernel
theorem dX0_init_13 : decode cX0_init 13 = .ok (.newarray .int, 2) := by decide +kernel
theorem dX0_init_15 : decode cX0_init 15 = .ok (.putfield 15, 3) := by decide +kernel
theorem dX0_init_18 : decode cX0_init 18 = .ok (.aload_n 0, 1) := by decide +kernel
theorem dX0_init_19 : decode cX0_init 19 = .ok (.bipush 24, 2) := by decide +kernel
theorem dX0_init_21 : decode cX0_init 21 = .ok (.newarray .int, 2) := by decide +kernel
theorem dX0_init_23 : decode cX0_init 23 = .ok (.putfield 19, 3) := by decide +kernel
theorem dX0_init_26 : decode cX0_init 26 = .ok (.aload_n 0, 1) := by decide +kernel
theorem dX0_init_27 : decode cX0_init 27 = .ok (.iconst 0, 1) := by decide +kernel
theorem dX0_init_28 : decode cX0_init 28 = .ok (.putfield 22, 3) := by decide +kernel
theorem dX0_init_31 : decode cX0_init 31 = .ok (.return_, 1) := by decide +kernel
theorem dX0_pileOf_0 : decode cX0_pileOf 0 = .ok (.iload_n 0, 1) := by decide +kernel
theorem dX0_pileOf_1 : decode cX0_pileOf 1 = .ok (.bipush 6, 2) := by decide +kernel
theorem dX0_pileOf_3 : decode cX0_pileOf 3 = .ok (.imul, 1) := by decide +kernel
theorem dX0_pileOf_4 : decode cX0_pileOf 4 = .ok (.iload_n 1, 1) := by decide +kernel
theorem dX0_pileOf_5 : decode cX0_pileOf 5 = .ok (.iadd, 1) := by decide +kernel
theorem dX0_pileOf_6 : decode cX0_pileOf 6 = .ok (.ireturn, 1) := by decide +kernel
theorem dX0_shipOf_0 : decode cX0_shipOf 0 = .ok (.iload_n 0, 1) := by decide +kernel
theorem dX0_shipOf_1 : decode cX0_shipOf 1 = .ok (.iconst (-1), 1) := by decide +kernel
theorem dX0_shipOf_2 : decode cX0_shipOf 2 = .ok (.if_icmp .ne 7, 3) := by decide +kernel
theorem dX0_shipOf_5 : decode cX0_shipOf 5 = .ok (.iconst (-1), 1) := by decide +kernel
theorem dX0_shipOf_6 : decode cX0_shipOf 6 = .ok (.goto 7, 3) := by decide +kernel
theorem dX0_shipOf_9 : decode cX0_shipOf 9 = .ok (.iload_n 0, 1) := by decide +kernel
theorem dX0_shipOf_10 : decode cX0_shipOf 10 = .ok (.bipush 6, 2) := by decide +kernel
theorem dX0_shipOf_12 : decode cX0_shipOf 12 = .ok (.idiv, 1) := by decide +kernel
theorem dX0_shipOf_13 : decode cX0_shipOf 13 = .ok (.ireturn, 1) := by decide +kernel
theorem dX0_holdOf_0 : decode cX0_holdOf 0 = .ok (.iload_n 0, 1) := by decide +kernel
theorem dX0_holdOf_1 : decode cX0_holdOf 1 = .ok (.iconst (-1), 1) := by decide +kernel
theorem dX0_holdOf_2 : decode cX0_holdOf 2 = .ok (.if_icmp .ne 7, 3) := by decide +kernel
theorem dX0_holdOf_5 : decode cX0_holdOf 5 = .ok (.iconst (-1), 1) := by decide +kernel
theorem dX0_holdOf_6 : decode cX0_holdOf 6 = .ok (.goto 7, 3) := by decide +kernel
theorem dX0_holdOf_9 : decode cX0_holdOf 9 = .ok (.iload_n 0, 1) := by decide +kernel
theorem dX0_holdOf_10 : decode cX0_holdOf 10 = .ok (.bipush 6, 2) := by decide +kernel
theorem dX0_holdOf_12 : decode cX0_holdOf 12 = .ok (.irem, 1) := by decide +kernel
theorem dX0_holdOf_13 : decode cX0_holdOf 13 = .ok (.ireturn, 1) := by decide +kernel
theorem dX0_add_0 : decode cX0_add 0 = .ok (.aload_n 0, 1) := by decide +kernel
theorem dX0_add_1 : decode cX0_add 1 = .ok (.dup, 1) := by decide +kernel
theorem dX0_add_2 : decode cX0_add 2 = .ok (.getfield 22, 3) := by decide +kernel
theorem dX0_add_5 : decode cX0_add 5 = .ok (.iconst 1, 1) := by decide +kernel
theorem dX0_add_6 : decode cX0_add 6 = .ok (.iadd, 1) := by decide +kernel
theorem dX0_add_7 : decode cX0_add 7 = .ok (.putfield 22, 3) := by decide +kernel
theorem dX0_add_10 : decode cX0_add 10 = .ok (.aload_n 0, 1) := by decide +kernel
theorem dX0_add_11 : decode cX0_add 11 = .ok (.getfield 22, 3) := by decide +kernel
theorem dX0_add_14 : decode cX0_add 14 = .ok (.iconst 1, 1) := by decide +kernel
theorem dX0_add_15 : decode cX0_add 15 = .ok (.isub, 1) := by decide +kernel
theorem dX0_add_16 : decode cX0_add 16 = .ok (.ireturn, 1) := by decide +kernel
theorem dX0_jarAt_0 : decode cX0_jarAt 0 = .ok (.iload_n 2, 1) := by decide +kernel
theorem dX0_jarAt_1 : decode cX0_jarAt 1 = .ok (.ifCond .lt 13, 3) := by decide +kernel
theorem dX0_jarAt_4 : decode cX0_jarAt 4 = .ok (.iload_n 2, 1) := by decide +kernel
theorem dX0_jarAt_5 : decode cX0_jarAt 5 = .ok (.aload_n 0, 1) := by decide +kernel
theorem dX0_jarAt_6 : decode cX0_jarAt 6 = .ok (.getfield 19, 3) := by decide +kernel
theorem dX0_jarAt_9 : decode cX0_jarAt 9 = .ok (.iload_n 1, 1) := by decide +kernel
theorem dX0_jarAt_10 : decode cX0_jarAt 10 = .ok (.iaload, 1) := by decide +kernel
theorem dX0_jarAt_11 : decode cX0_jarAt 11 = .ok (.if_icmp .lt 7, 3) := by decide +kernel
theorem dX0_jarAt_14 : decode cX0_jarAt 14 = .ok (.iconst (-1), 1) := by decide +kernel
theorem dX0_jarAt_15 : decode cX0_jarAt 15 = .ok (.goto 14, 3) := by decide +kernel
theorem dX0_jarAt_18 : decode cX0_jarAt 18 = .ok (.aload_n 0, 1) := by decide +kernel
theorem dX0_jarAt_19 : decode cX0_jarAt 19 = .ok (.getfield 15, 3) := by decide +kernel
theorem dX0_jarAt_22 : decode cX0_jarAt 22 = .ok (.iload_n 1, 1) := by decide +kernel
theorem dX0_jarAt_23 : decode cX0_jarAt 23 = .ok (.bipush 10, 2) := by decide +kernel
theorem dX0_jarAt_25 : decode cX0_jarAt 25 = .ok (.imul, 1) := by decide +kernel
theorem dX0_jarAt_26 : decode cX0_jarAt 26 = .ok (.iload_n 2, 1) := by decide +kernel
theorem dX0_jarAt_27 : decode cX0_jarAt 27 = .ok (.iadd, 1) := by decide +kernel
theorem dX0_jarAt_28 : decode cX0_jarAt 28 = .ok (.iaload, 1) := by decide +kernel
theorem dX0_jarAt_29 : decode cX0_jarAt 29 = .ok (.ireturn, 1) := by decide +kernel
set_option maxRecDepth 20000 in
theorem ggX0_put_X0_canBear : GoodIn wsX0_put wsX0_canBear := goodIn_sub (xc (xt1 (xl (xl (xl (xl (xt4 (xt1 (xt1 (xh))))))))) (xa (xa (xa (xc (xt1 (xl (xl (xl (xl (xh)))))) (xc (xt1 (xl (xl (xl (xl (xt1 (xh))))))) (xc (xt1 (xl (xl (xl (xl (xt4 (xt1 (xt1 (xt1 (xh)))))))))) (xc (xt1 (xl (xl (xl (xl (xt4 (xt4 (xh)))))))) (xc (xt1 (xl (xl (xl (xl (xt4 (xt4 (xt1 (xh))))))))) (xc (xt1 (xl (xl (xl (xl (xt4 (xt4 (xt1 (xt1 (xh)))))))))) (xc (xt1 (xl (xl (xl (xl (xt4 (xt4 (xt1 (xt1 (xt1 (xh))))))))))) (xc (xt1 (xl (xl (xl (xl (xt4 (xt4 (xt4 (xh))))))))) (xc (xt1 (xl (xl (xl (xl (xt4 (xt4 (xt4 (xt1 (xh)))))))))) (xc (xt1 (xl (xl (xl (xl (xt4 (xt4 (xt4 (xt1 (xt1 (xh))))))))))) (xc (xt1 (xl (xl (xl (xl (xt4 (xt4 (xt4 (xt1 (xt1 (xt1 (xh)))))))))))) (xc (xt1 (xl (xl (xl (xl (xt16 (xh))))))) (xc (xt1 (xl (xl (xl (xl (xt16 (xt1 (xh)))))))) (xc (xt1 (xl (xl (xl (xl (xt16 (xt1 (xt1 (xh))))))))) (xc (xt1 (xl (xl (xl (xl (xt16 (xt1 (xt1 (xt1 (xh)))))))))) (xn)))))))))))))))) (fun _ h => xt1 (xl (xl (xr (h)))))) (fun _ h => xt1 (xl (xr (h))))) (fun _ h => xt1 (xr (h))))) (by decide +kernel)
set_option maxRecDepth 20000 in
theorem gX0_put_X0_canBear : GoodIn wsX0_put (wsV RX0 31 RX0 yX0_canBear wsX0_canBear) := goodIn_app (goodIn_sub (xc (xt1 (xl (xl (xl (xl (xt1 (xt1 (xh)))))))) (xc (xt1 (xl (xl (xl (xl (xt1 (xt1 (xt1 (xh))))))))) (xc (xt1 (xl (xl (xl (xl (xt4 (xh))))))) (xc (xt1 (xl (xl (xl (xl (xt4 (xt1 (xh)))))))) (xn))))) (by decide +kernel)) ggX0_put_X0_canBear
set_option maxRecDepth 20000 in
theorem ggX0_put_X0_setTop : GoodIn wsX0_put wsX0_setTop := goodIn_sub (xc (xt1 (xl (xl (xl (xl (xt16 (xt4 (xt1 (xt1 (xt1 (xh))))))))))) (xa (xc (xt1 (xl (xl (xl (xl (xt4 (xt1 (xt1 (xt1 (xh)))))))))) (xc (xt1 (xl (xl (xl (xl (xt1 (xh))))))) (xn))) (fun _ h => xt1 (xl (xl (xr (h))))))) (by decide +kernel)
set_option maxRecDepth 20000 in
theorem gX0_put_X0_setTop : GoodIn wsX0_put (wsV RX0 35 RX0 yX0_setTop wsX0_setTop) := goodIn_app (goodIn_sub (xc (xt1 (xl (xl (xl (xl (xt16 (xt4 (xh)))))))) (xc (xt1 (xl (xl (xl (xl (xt16 (xt4 (xt1 (xh))))))))) (xc (xt1 (xl (xl (xl (xl (xt16 (xt4 (xt1 (xt1 (xh)))))))))) (xc (xt1 (xl (xl (xl (xl (xt4 (xt1 (xh)))))))) (xn))))) (by decide +kernel)) ggX0_put_X0_setTop
set_option maxRecDepth 20000 in
theorem ggX0_put_X1_move : GoodIn wsX0_put wsX1_move := goodIn_sub (xc (xt1 (xl (xl (xl (xr (xt1 (xt1 (xt1 (xh))))))))) (xa (xc (xt1 (xl (xl (xl (xr (xt4 (xh))))))) (xc (xt1 (xl (xl (xl (xr (xt4 (xt1 (xh)))))))) (xn))) (fun _ h => xt1 (xl (xr (h)))))) (by decide +kernel)
set_option maxRecDepth 20000 in
theorem gX0_put_X1_move : GoodIn wsX0_put (wsV RX0 39 RX1 yX1_move wsX1_move) := goodIn_app (goodIn_sub (xc (xt1 (xl (xl (xl (xr (xh)))))) (xc (xt1 (xl (xl (xl (xr (xt1 (xh))))))) (xc (xt1 (xl (xl (xl (xr (xt1 (xt1 (xh)))))))) (xc (xt1 (xl (xl (xl (xl (xt4 (xt4 (xt1 (xt1 (xt1 (xh))))))))))) (xn))))) (by decide +kernel)) ggX0_put_X1_move
theorem dX0_put_0 : decode cX0_put 0 = .ok (.aload_n 0, 1) := by decide +kernel
theorem dX0_put_1 : decode cX0_put 1 = .ok (.getfield 9, 3) := by decide +kernel
theorem dX0_put_4 : decode cX0_put 4 = .ok (.getfield 26, 3) := by decide +kernel
theorem dX0_put_7 : decode cX0_put 7 = .ok (.iload_n 1, 1) := by decide +kernel
theorem dX0_put_8 : decode cX0_put 8 = .ok (.iaload, 1) := by decide +kernel
theorem dX0_put_9 : decode cX0_put 9 = .ok (.ifCond .ne 23, 3) := by decide +kernel
theorem dX0_put_12 : decode cX0_put 12 = .ok (.aload_n 0, 1) := by decide +kernel
theorem dX0_put_13 : decode cX0_put 13 = .ok (.getfield 19, 3) := by decide +kernel
theorem dX0_put_16 : decode cX0_put 16 = .ok (.iload_n 2, 1) := by decide +kernel
theorem dX0_put_17 : decode cX0_put 17 = .ok (.iaload, 1) := by decide +kernel
theorem dX0_put_18 : decode cX0_put 18 = .ok (.bipush 10, 2) := by decide +kernel
theorem dX0_put_20 : decode cX0_put 20 = .ok (.if_icmp .ge 12, 3) := by decide +kernel
theorem dX0_put_23 : decode cX0_put 23 = .ok (.aload_n 0, 1) := by decide +kernel
theorem dX0_put_24 : decode cX0_put 24 = .ok (.iload_n 2, 1) := by decide +kernel
theorem dX0_put_25 : decode cX0_put 25 = .ok (.iload_n 1, 1) := by decide +kernel
theorem dX0_put_26 : decode cX0_put 26 = .ok (.invokevirtual 31, 3) := by decide +kernel
theorem dX0_put_29 : decode cX0_put 29 = .ok (.ifCond .ne 5, 3) := by decide +kernel
theorem dX0_put_32 : decode cX0_put 32 = .ok (.iconst 0, 1) := by decide +kernel
theorem dX0_put_33 : decode cX0_put 33 = .ok (.ireturn, 1) := by decide +kernel
theorem dX0_put_34 : decode cX0_put 34 = .ok (.aload_n 0, 1) := by decide +kernel
theorem dX0_put_35 : decode cX0_put 35 = .ok (.iload_n 2, 1) := by decide +kernel
theorem dX0_put_36 : decode cX0_put 36 = .ok (.iload_n 1, 1) := by decide +kernel
theorem dX0_put_37 : decode cX0_put 37 = .ok (.invokevirtual 35, 3) := by decide +kernel
theorem dX0_put_40 : decode cX0_put 40 = .ok (.aload_n 0, 1) := by decide +kernel
theorem dX0_put_41 : decode cX0_put 41 = .ok (.getfield 9, 3) := by decide +kernel
theorem dX0_put_44 : decode cX0_put 44 = .ok (.iload_n 1, 1) := by decide +kernel
theorem dX0_put_45 : decode cX0_put 45 = .ok (.iconst 1, 1) := by decide +kernel
theorem dX0_put_46 : decode cX0_put 46 = .ok (.iload_n 2, 1) := by decide +kernel
theorem dX0_put_47 : decode cX0_put 47 = .ok (.invokevirtual 39, 3) := by decide +kernel
theorem dX0_put_50 : decode cX0_put 50 = .ok (.iconst 1, 1) := by decide +kernel
theorem dX0_put_51 : decode cX0_put 51 = .ok (.ireturn, 1) := by decide +kernel
theorem dX0_setTop_0 : decode cX0_setTop 0 = .ok (.aload_n 0, 1) := by decide +kernel
theorem dX0_setTop_1 : decode cX0_setTop 1 = .ok (.getfield 15, 3) := by decide +kernel
theorem dX0_setTop_4 : decode cX0_setTop 4 = .ok (.iload_n 1, 1) := by decide +kernel
theorem dX0_setTop_5 : decode cX0_setTop 5 = .ok (.bipush 10, 2) := by decide +kernel
theorem dX0_setTop_7 : decode cX0_setTop 7 = .ok (.imul, 1) := by decide +kernel
theorem dX0_setTop_8 : decode cX0_setTop 8 = .ok (.aload_n 0, 1) := by decide +kernel
theorem dX0_setTop_9 : decode cX0_setTop 9 = .ok (.getfield 19, 3) := by decide +kernel
theorem dX0_setTop_12 : decode cX0_setTop 12 = .ok (.iload_n 1, 1) := by decide +kernel
theorem dX0_setTop_13 : decode cX0_setTop 13 = .ok (.iaload, 1) := by decide +kernel
theorem dX0_setTop_14 : decode cX0_setTop 14 = .ok (.iadd, 1) := by decide +kernel
theorem dX0_setTop_15 : decode cX0_setTop 15 = .ok (.iload_n 2, 1) := by decide +kernel
theorem dX0_setTop_16 : decode cX0_setTop 16 = .ok (.iastore, 1) := by decide +kernel
theorem dX0_setTop_17 : decode cX0_setTop 17 = .ok (.aload_n 0, 1) := by decide +kernel
theorem dX0_setTop_18 : decode cX0_setTop 18 = .ok (.getfield 19, 3) := by decide +kernel
theorem dX0_setTop_21 : decode cX0_setTop 21 = .ok (.iload_n 1, 1) := by decide +kernel
theorem dX0_setTop_22 : decode cX0_setTop 22 = .ok (.dup2, 1) := by decide +kernel
theorem dX0_setTop_23 : decode cX0_setTop 23 = .ok (.iaload, 1) := by decide +kernel
theorem dX0_setTop_24 : decode cX0_setTop 24 = .ok (.iconst 1, 1) := by decide +kernel
theorem dX0_setTop_25 : decode cX0_setTop 25 = .ok (.iadd, 1) := by decide +kernel
theorem dX0_setTop_26 : decode cX0_setTop 26 = .ok (.iastore, 1) := by decide +kernel
theorem dX0_setTop_27 : decode cX0_setTop 27 = .ok (.return_, 1) := by decide +kernel
set_option maxRecDepth 20000 in
theorem ggX0_canBear_X1_weight : GoodIn wsX0_canBear wsX1_weight := goodIn_sub (xc (xt1 (xl (xl (xl (xt4 (xt1 (xt1 (xt1 (xh))))))))) (xa (xa (xc (xt1 (xl (xl (xl (xt4 (xt4 (xh))))))) (xc (xt1 (xl (xl (xl (xt4 (xt4 (xt1 (xh)))))))) (xc (xt1 (xl (xl (xl (xt4 (xt4 (xt1 (xt1 (xh))))))))) (xn)))) (fun _ h => xt1 (xl (xr (h))))) (fun _ h => xt1 (xr (h))))) (by decide +kernel)
set_option maxRecDepth 20000 in
theorem gX0_canBear_X1_weight : GoodIn wsX0_canBear (wsV RX0 43 RX1 yX1_weight wsX1_weight) := goodIn_app (goodIn_sub (xc (xt1 (xl (xl (xl (xt1 (xt1 (xt1 (xh)))))))) (xc (xt1 (xl (xl (xl (xt4 (xh)))))) (xc (xt1 (xl (xl (xl (xt4 (xt1 (xh))))))) (xc (xt1 (xl (xl (xl (xt4 (xt1 (xt1 (xh)))))))) (xn))))) (by decide +kernel)) ggX0_canBear_X1_weight
set_option maxRecDepth 20000 in
theorem ggX0_canBear_X1_bears : GoodIn wsX0_canBear wsX1_bears := goodIn_sub (xc (xt1 (xl (xl (xl (xt4 (xt4 (xt4 (xt1 (xt1 (xh)))))))))) (xa (xa (xc (xt1 (xl (xl (xl (xt4 (xt4 (xh))))))) (xc (xt1 (xl (xl (xl (xt4 (xt4 (xt1 (xh)))))))) (xn))) (fun _ h => xt1 (xl (xr (h))))) (fun _ h => xt1 (xr (h))))) (by decide +kernel)
set_option maxRecDepth 20000 in
theorem gX0_canBear_X1_bears : GoodIn wsX0_canBear (wsV RX0 47 RX1 yX1_bears wsX1_bears) := goodIn_app (goodIn_sub (xc (xt1 (xl (xl (xl (xt4 (xt4 (xt1 (xt1 (xt1 (xh)))))))))) (xc (xt1 (xl (xl (xl (xt4 (xt4 (xt4 (xh)))))))) (xc (xt1 (xl (xl (xl (xt4 (xt4 (xt4 (xt1 (xh))))))))) (xc (xt1 (xl (xl (xl (xt4 (xt1 (xt1 (xh)))))))) (xn))))) (by decide +kernel)) ggX0_canBear_X1_bears
theorem dX0_canBear_0 : decode cX0_canBear 0 = .ok (.aload_n 0, 1) := by decide +kernel
theorem dX0_canBear_1 : decode cX0_canBear 1 = .ok (.getfield 9, 3) := by decide +kernel
theorem dX0_canBear_4 : decode cX0_canBear 4 = .ok (.iload_n 2, 1) := by decide +kernel
theorem dX0_canBear_5 : decode cX0_canBear 5 = .ok (.invokevirtual 43, 3) := by decide +kernel
theorem dX0_canBear_8 : decode cX0_canBear 8 = .ok (.istore_n 3, 1) := by decide +kernel
theorem dX0_canBear_9 : decode cX0_canBear 9 = .ok (.aload_n 0, 1) := by decide +kernel
theorem dX0_canBear_10 : decode cX0_canBear 10 = .ok (.getfield 19, 3) := by decide +kernel
theorem dX0_canBear_13 : decode cX0_canBear 13 = .ok (.iload_n 1, 1) := by decide +kernel
theorem dX0_canBear_14 : decode cX0_canBear 14 = .ok (.iaload, 1) := by decide +kernel
theorem dX0_canBear_15 : decode cX0_canBear 15 = .ok (.iconst 1, 1) := by decide +kernel
theorem dX0_canBear_16 : decode cX0_canBear 16 = .ok (.isub, 1) := by decide +kernel
theorem dX0_canBear_17 : decode cX0_canBear 17 = .ok (.istore 4, 2) := by decide +kernel
theorem dX0_canBear_19 : decode cX0_canBear 19 = .ok (.iload 4, 2) := by decide +kernel
theorem dX0_canBear_21 : decode cX0_canBear 21 = .ok (.ifCond .lt 50, 3) := by decide +kernel
theorem dX0_canBear_24 : decode cX0_canBear 24 = .ok (.aload_n 0, 1) := by decide +kernel
theorem dX0_canBear_25 : decode cX0_canBear 25 = .ok (.getfield 15, 3) := by decide +kernel
theorem dX0_canBear_28 : decode cX0_canBear 28 = .ok (.iload_n 1, 1) := by decide +kernel
theorem dX0_canBear_29 : decode cX0_canBear 29 = .ok (.bipush 10, 2) := by decide +kernel
theorem dX0_canBear_31 : decode cX0_canBear 31 = .ok (.imul, 1) := by decide +kernel
theorem dX0_canBear_32 : decode cX0_canBear 32 = .ok (.iload 4, 2) := by decide +kernel
theorem dX0_canBear_34 : decode cX0_canBear 34 = .ok (.iadd, 1) := by decide +kernel
theorem dX0_canBear_35 : decode cX0_canBear 35 = .ok (.iaload, 1) := by decide +kernel
theorem dX0_canBear_36 : decode cX0_canBear 36 = .ok (.istore 5, 2) := by decide +kernel
theorem dX0_canBear_38 : decode cX0_canBear 38 = .ok (.iload_n 3, 1) := by decide +kernel
theorem dX0_canBear_39 : decode cX0_canBear 39 = .ok (.aload_n 0, 1) := by decide +kernel
theorem dX0_canBear_40 : decode cX0_canBear 40 = .ok (.getfield 9, 3) := by decide +kernel
theorem dX0_canBear_43 : decode cX0_canBear 43 = .ok (.iload 5, 2) := by decide +kernel
theorem dX0_canBear_45 : decode cX0_canBear 45 = .ok (.invokevirtual 47, 3) := by decide +kernel
theorem dX0_canBear_48 : decode cX0_canBear 48 = .ok (.if_icmp .le 5, 3) := by decide +kernel
theorem dX0_canBear_51 : decode cX0_canBear 51 = .ok (.iconst 0, 1) := by decide +kernel
theorem dX0_canBear_52 : decode cX0_canBear 52 = .ok (.ireturn, 1) := by decide +kernel
theorem dX0_canBear_53 : decode cX0_canBear 53 = .ok (.iload_n 3, 1) := by decide +kernel
theorem dX0_canBear_54 : decode cX0_canBear 54 = .ok (.aload_n 0, 1) := by decide +kernel
theorem dX0_canBear_55 : decode cX0_canBear 55 = .ok (.getfield 9, 3) := by decide +kernel
theorem dX0_canBear_58 : decode cX0_canBear 58 = .ok (.iload 5, 2) := by decide +kernel
theorem dX0_canBear_60 : decode cX0_canBear 60 = .ok (.invokevirtual 43, 3) := by decide +kernel
theorem dX0_canBear_63 : decode cX0_canBear 63 = .ok (.iadd, 1) := by decide +kernel
theorem dX0_canBear_64 : decode cX0_canBear 64 = .ok (.istore_n 3, 1) := by decide +kernel
theorem dX0_canBear_65 : decode cX0_canBear 65 = .ok (.iinc 4 (-1), 3) := by decide +kernel
theorem dX0_canBear_68 : decode cX0_canBear 68 = .ok (.goto (-49), 3) := by decide +kernel
theorem dX0_canBear_71 : decode cX0_canBear 71 = .ok (.iconst 1, 1) := by decide +kernel
theorem dX0_canBear_72 : decode cX0_canBear 72 = .ok (.ireturn, 1) := by decide +kernel
set_option maxRecDepth 20000 in
theorem ggX0_takeTop_X0_jarAt : GoodIn wsX0_takeTop wsX0_jarAt := goodIn_sub (xc (xt1 (xl (xl (xt4 (xt1 (xt1 (xh))))))) (xa (xc (xt1 (xl (xl (xh)))) (xc (xt1 (xl (xl (xt4 (xt1 (xt1 (xt1 (xh)))))))) (xn))) (fun _ h => xt1 (xl (xr (h)))))) (by decide +kernel)
set_option maxRecDepth 20000 in
theorem gX0_takeTop_X0_jarAt : GoodIn wsX0_takeTop (wsV RX0 50 RX0 yX0_jarAt wsX0_jarAt) := goodIn_app (goodIn_sub (xc (xt1 (xl (xl (xt1 (xt1 (xh)))))) (xc (xt1 (xl (xl (xt1 (xt1 (xt1 (xh))))))) (xc (xt1 (xl (xl (xt4 (xh))))) (xc (xt1 (xl (xl (xt4 (xt1 (xh)))))) (xn))))) (by decide +kernel)) ggX0_takeTop_X0_jarAt
set_option maxRecDepth 20000 in
theorem ggX0_takeTop_X1_move : GoodIn wsX0_takeTop wsX1_move := goodIn_sub (xc (xt1 (xl (xl (xt4 (xt4 (xt4 (xh))))))) (xa (xc (xt1 (xl (xl (xt4 (xt4 (xt4 (xt1 (xh)))))))) (xc (xt1 (xl (xl (xt4 (xt4 (xt4 (xt1 (xt1 (xh))))))))) (xn))) (fun _ h => xt1 (xr (h))))) (by decide +kernel)
set_option maxRecDepth 20000 in
theorem gX0_takeTop_X1_move : GoodIn wsX0_takeTop (wsV RX0 39 RX1 yX1_move wsX1_move) := goodIn_app (goodIn_sub (xc (xt1 (xl (xl (xt4 (xt4 (xh)))))) (xc (xt1 (xl (xl (xt4 (xt4 (xt1 (xh))))))) (xc (xt1 (xl (xl (xt4 (xt4 (xt1 (xt1 (xh)))))))) (xc (xt1 (xl (xl (xt4 (xt4 (xt1 (xt1 (xt1 (xh))))))))) (xn))))) (by decide +kernel)) ggX0_takeTop_X1_move
theorem dX0_takeTop_0 : decode cX0_takeTop 0 = .ok (.aload_n 0, 1) := by decide +kernel
theorem dX0_takeTop_1 : decode cX0_takeTop 1 = .ok (.iload_n 1, 1) := by decide +kernel
theorem dX0_takeTop_2 : decode cX0_takeTop 2 = .ok (.aload_n 0, 1) := by decide +kernel
theorem dX0_takeTop_3 : decode cX0_takeTop 3 = .ok (.getfield 19, 3) := by decide +kernel
theorem dX0_takeTop_6 : decode cX0_takeTop 6 = .ok (.iload_n 1, 1) := by decide +kernel
theorem dX0_takeTop_7 : decode cX0_takeTop 7 = .ok (.iaload, 1) := by decide +kernel
theorem dX0_takeTop_8 : decode cX0_takeTop 8 = .ok (.iconst 1, 1) := by decide +kernel
theorem dX0_takeTop_9 : decode cX0_takeTop 9 = .ok (.isub, 1) := by decide +kernel
theorem dX0_takeTop_10 : decode cX0_takeTop 10 = .ok (.invokevirtual 50, 3) := by decide +kernel
theorem dX0_takeTop_13 : decode cX0_takeTop 13 = .ok (.istore_n 2, 1) := by decide +kernel
theorem dX0_takeTop_14 : decode cX0_takeTop 14 = .ok (.iload_n 2, 1) := by decide +kernel
theorem dX0_takeTop_15 : decode cX0_takeTop 15 = .ok (.iconst (-1), 1) := by decide +kernel
theorem dX0_takeTop_16 : decode cX0_takeTop 16 = .ok (.if_icmp .eq 23, 3) := by decide +kernel
theorem dX0_takeTop_19 : decode cX0_takeTop 19 = .ok (.aload_n 0, 1) := by decide +kernel
theorem dX0_takeTop_20 : decode cX0_takeTop 20 = .ok (.getfield 19, 3) := by decide +kernel
theorem dX0_takeTop_23 : decode cX0_takeTop 23 = .ok (.iload_n 1, 1) := by decide +kernel
theorem dX0_takeTop_24 : decode cX0_takeTop 24 = .ok (.dup2, 1) := by decide +kernel
theorem dX0_takeTop_25 : decode cX0_takeTop 25 = .ok (.iaload, 1) := by decide +kernel
theorem dX0_takeTop_26 : decode cX0_takeTop 26 = .ok (.iconst 1, 1) := by decide +kernel
theorem dX0_takeTop_27 : decode cX0_takeTop 27 = .ok (.isub, 1) := by decide +kernel
theorem dX0_takeTop_28 : decode cX0_takeTop 28 = .ok (.iastore, 1) := by decide +kernel
theorem dX0_takeTop_29 : decode cX0_takeTop 29 = .ok (.aload_n 0, 1) := by decide +kernel
theorem dX0_takeTop_30 : decode cX0_takeTop 30 = .ok (.getfield 9, 3) := by decide +kernel
theorem dX0_takeTop_33 : decode cX0_takeTop 33 = .ok (.iload_n 2, 1) := by decide +kernel
theorem dX0_takeTop_34 : decode cX0_takeTop 34 = .ok (.iconst 2, 1) := by decide +kernel
theorem dX0_takeTop_35 : decode cX0_takeTop 35 = .ok (.iconst (-1), 1) := by decide +kernel
theorem dX0_takeTop_36 : decode cX0_takeTop 36 = .ok (.invokevirtual 39, 3) := by decide +kernel
theorem dX0_takeTop_39 : decode cX0_takeTop 39 = .ok (.iload_n 2, 1) := by decide +kernel
theorem dX0_takeTop_40 : decode cX0_takeTop 40 = .ok (.ireturn, 1) := by decide +kernel
set_option maxRecDepth 20000 in
theorem ggX0_weightAbove_X1_weight : GoodIn wsX0_weightAbove wsX1_weight := goodIn_sub (xc (xt1 (xl (xl (xl (xt4 (xt1 (xt1 (xt1 (xh))))))))) (xa (xa (xc (xt1 (xl (xl (xl (xt4 (xt4 (xh))))))) (xc (xt1 (xl (xl (xl (xt4 (xt4 (xt1 (xh)))))))) (xc (xt1 (xl (xl (xl (xt4 (xt4 (xt1 (xt1 (xh))))))))) (xn)))) (fun _ h => xt1 (xl (xr (h))))) (fun _ h => xt1 (xr (h))))) (by decide +kernel)
set_option maxRecDepth 20000 in
theorem gX0_weightAbove_X1_weight : GoodIn wsX0_weightAbove (wsV RX0 43 RX1 yX1_weight wsX1_weight) := goodIn_app (goodIn_sub (xc (xt1 (xl (xl (xl (xt1 (xt1 (xt1 (xh)))))))) (xc (xt1 (xl (xl (xl (xt4 (xh)))))) (xc (xt1 (xl (xl (xl (xt4 (xt1 (xh))))))) (xc (xt1 (xl (xl (xl (xt4 (xt1 (xt1 (xh)))))))) (xn))))) (by decide +kernel)) ggX0_weightAbove_X1_weight
theorem dX0_weightAbove_0 : decode cX0_weightAbove 0 = .ok (.aload_n 0, 1) := by decide +kernel
theorem dX0_weightAbove_1 : decode cX0_weightAbove 1 = .ok (.getfield 9, 3) := by decide +kernel
theorem dX0_weightAbove_4 : decode cX0_weightAbove 4 = .ok (.getfield 54, 3) := by decide +kernel
theorem dX0_weightAbove_7 : decode cX0_weightAbove 7 = .ok (.iload_n 1, 1) := by decide +kernel
theorem dX0_weightAbove_8 : decode cX0_weightAbove 8 = .ok (.iaload, 1) := by decide +kernel
theorem dX0_weightAbove_9 : decode cX0_weightAbove 9 = .ok (.istore_n 2, 1) := by decide +kernel
theorem dX0_weightAbove_10 : decode cX0_weightAbove 10 = .ok (.iload_n 2, 1) := by decide +kernel
theorem dX0_weightAbove_11 : decode cX0_weightAbove 11 = .ok (.iconst (-1), 1) := by decide +kernel
theorem dX0_weightAbove_12 : decode cX0_weightAbove 12 = .ok (.if_icmp .ne 5, 3) := by decide +kernel
theorem dX0_weightAbove_15 : decode cX0_weightAbove 15 = .ok (.iconst 0, 1) := by decide +kernel
theorem dX0_weightAbove_16 : decode cX0_weightAbove 16 = .ok (.ireturn, 1) := by decide +kernel
theorem dX0_weightAbove_17 : decode cX0_weightAbove 17 = .ok (.iconst 0, 1) := by decide +kernel
theorem dX0_weightAbove_18 : decode cX0_weightAbove 18 = .ok (.istore_n 3, 1) := by decide +kernel
theorem dX0_weightAbove_19 : decode cX0_weightAbove 19 = .ok (.aload_n 0, 1) := by decide +kernel
theorem dX0_weightAbove_20 : decode cX0_weightAbove 20 = .ok (.getfield 19, 3) := by decide +kernel
theorem dX0_weightAbove_23 : decode cX0_weightAbove 23 = .ok (.iload_n 2, 1) := by decide +kernel
theorem dX0_weightAbove_24 : decode cX0_weightAbove 24 = .ok (.iaload, 1) := by decide +kernel
theorem dX0_weightAbove_25 : decode cX0_weightAbove 25 = .ok (.iconst 1, 1) := by decide +kernel
theorem dX0_weightAbove_26 : decode cX0_weightAbove 26 = .ok (.isub, 1) := by decide +kernel
theorem dX0_weightAbove_27 : decode cX0_weightAbove 27 = .ok (.istore 4, 2) := by decide +kernel
theorem dX0_weightAbove_29 : decode cX0_weightAbove 29 = .ok (.iload 4, 2) := by decide +kernel
theorem dX0_weightAbove_31 : decode cX0_weightAbove 31 = .ok (.ifCond .lt 44, 3) := by decide +kernel
theorem dX0_weightAbove_34 : decode cX0_weightAbove 34 = .ok (.aload_n 0, 1) := by decide +kernel
theorem dX0_weightAbove_35 : decode cX0_weightAbove 35 = .ok (.getfield 15, 3) := by decide +kernel
theorem dX0_weightAbove_38 : decode cX0_weightAbove 38 = .ok (.iload_n 2, 1) := by decide +kernel
theorem dX0_weightAbove_39 : decode cX0_weightAbove 39 = .ok (.bipush 10, 2) := by decide +kernel
theorem dX0_weightAbove_41 : decode cX0_weightAbove 41 = .ok (.imul, 1) := by decide +kernel
theorem dX0_weightAbove_42 : decode cX0_weightAbove 42 = .ok (.iload 4, 2) := by decide +kernel
theorem dX0_weightAbove_44 : decode cX0_weightAbove 44 = .ok (.iadd, 1) := by decide +kernel
theorem dX0_weightAbove_45 : decode cX0_weightAbove 45 = .ok (.iaload, 1) := by decide +kernel
theorem dX0_weightAbove_46 : decode cX0_weightAbove 46 = .ok (.istore 5, 2) := by decide +kernel
theorem dX0_weightAbove_48 : decode cX0_weightAbove 48 = .ok (.iload 5, 2) := by decide +kernel
theorem dX0_weightAbove_50 : decode cX0_weightAbove 50 = .ok (.iload_n 1, 1) := by decide +kernel
theorem dX0_weightAbove_51 : decode cX0_weightAbove 51 = .ok (.if_icmp .ne 6, 3) := by decide +kernel
theorem dX0_weightAbove_54 : decode cX0_weightAbove 54 = .ok (.goto 21, 3) := by decide +kernel
theorem dX0_weightAbove_57 : decode cX0_weightAbove 57 = .ok (.iload_n 3, 1) := by decide +kernel
theorem dX0_weightAbove_58 : decode cX0_weightAbove 58 = .ok (.aload_n 0, 1) := by decide +kernel
theorem dX0_weightAbove_59 : decode cX0_weightAbove 59 = .ok (.getfield 9, 3) := by decide +kernel
theorem dX0_weightAbove_62 : decode cX0_weightAbove 62 = .ok (.iload 5, 2) := by decide +kernel
theorem dX0_weightAbove_64 : decode cX0_weightAbove 64 = .ok (.invokevirtual 43, 3) := by decide +kernel
theorem dX0_weightAbove_67 : decode cX0_weightAbove 67 = .ok (.iadd, 1) := by decide +kernel
theorem dX0_weightAbove_68 : decode cX0_weightAbove 68 = .ok (.istore_n 3, 1) := by decide +kernel
theorem dX0_weightAbove_69 : decode cX0_weightAbove 69 = .ok (.iinc 4 (-1), 3) := by decide +kernel
theorem dX0_weightAbove_72 : decode cX0_weightAbove 72 = .ok (.goto (-43), 3) := by decide +kernel
theorem dX0_weightAbove_75 : decode cX0_weightAbove 75 = .ok (.iload_n 3, 1) := by decide +kernel
theorem dX0_weightAbove_76 : decode cX0_weightAbove 76 = .ok (.ireturn, 1) := by decide +kernel
set_option maxRecDepth 20000 in
theorem ggX0_shake_X0_pileOf : GoodIn wsX0_shake wsX0_pileOf := goodIn_sub (xc (xt1 (xl (xl (xl (xl (xt4 (xh))))))) (xn)) (by decide +kernel)
set_option maxRecDepth 20000 in
theorem gX0_shake_X0_pileOf : GoodIn wsX0_shake (va_wsS RX0 57 yX0_pileOf wsX0_pileOf) := goodIn_app (goodIn_sub (xc (xt1 (xl (xl (xl (xl (xt1 (xh))))))) (xc (xt1 (xl (xl (xl (xl (xt1 (xt1 (xh)))))))) (xc (xt1 (xl (xl (xl (xl (xt1 (xt1 (xt1 (xh))))))))) (xn)))) (by decide +kernel)) ggX0_shake_X0_pileOf
set_option maxRecDepth 20000 in
theorem ggX0_shake_X0_breakWeak : GoodIn wsX0_shake wsX0_breakWeak := goodIn_sub (xc (xt1 (xl (xl (xl (xl (xt4 (xt4 (xh)))))))) (xa (xa (xa (xa (xc (xt1 (xl (xl (xl (xl (xh)))))) (xc (xt1 (xl (xl (xl (xl (xt4 (xt4 (xt1 (xh))))))))) (xc (xt1 (xl (xl (xl (xl (xt4 (xt4 (xt1 (xt1 (xh)))))))))) (xc (xt1 (xl (xl (xl (xl (xt4 (xt4 (xt1 (xt1 (xt1 (xh))))))))))) (xc (xt1 (xl (xl (xl (xl (xt4 (xt4 (xt4 (xh))))))))) (xc (xt1 (xl (xl (xl (xl (xt4 (xt4 (xt4 (xt1 (xh)))))))))) (xc (xt1 (xl (xl (xl (xl (xt1 (xt1 (xt1 (xh))))))))) (xc (xt1 (xl (xl (xl (xl (xt4 (xt4 (xt4 (xt1 (xt1 (xh))))))))))) (xc (xt1 (xl (xl (xl (xl (xt4 (xt4 (xt4 (xt1 (xt1 (xt1 (xh)))))))))))) (xc (xt1 (xl (xl (xl (xl (xt16 (xh))))))) (xc (xt1 (xl (xl (xl (xl (xt16 (xt1 (xh)))))))) (xc (xt1 (xl (xl (xl (xl (xt16 (xt1 (xt1 (xh))))))))) (xc (xt1 (xl (xl (xl (xl (xt16 (xt1 (xt1 (xt1 (xh)))))))))) (xc (xt1 (xl (xl (xl (xl (xt16 (xt4 (xh)))))))) (xc (xt1 (xl (xl (xl (xl (xt16 (xt4 (xt1 (xh))))))))) (xc (xt1 (xl (xl (xl (xl (xt16 (xt4 (xt1 (xt1 (xh)))))))))) (xc (xt1 (xl (xl (xl (xl (xt16 (xt4 (xt1 (xt1 (xt1 (xh))))))))))) (xc (xt1 (xl (xl (xl (xr (xh)))))) (xc (xt1 (xl (xl (xl (xr (xt1 (xh))))))) (xc (xt1 (xl (xl (xl (xr (xt1 (xt1 (xh)))))))) (xc (xt1 (xl (xl (xl (xr (xt1 (xt1 (xt1 (xh))))))))) (xc (xt1 (xl (xl (xl (xr (xt4 (xh))))))) (xc (xt1 (xl (xl (xl (xr (xt4 (xt1 (xh)))))))) (xc (xt1 (xl (xl (xl (xr (xt4 (xt1 (xt1 (xh))))))))) (xn))))))))))))))))))))))))) (xc (xt1 (xl (xl (xl (xr (xt4 (xt1 (xt1 (xt1 (xh)))))))))) (xc (xt1 (xl (xl (xl (xr (xt4 (xt4 (xh)))))))) (xn)))) (fun _ h => xt1 (xl (xl (xr (h)))))) (fun _ h => xt1 (xl (xr (h))))) (fun _ h => xt1 (xr (h))))) (by decide +kernel)
set_option maxRecDepth 20000 in
theorem gX0_shake_X0_breakWeak : GoodIn wsX0_shake (wsV RX0 60 RX0 yX0_breakWeak wsX0_breakWeak) := goodIn_app (goodIn_sub (xc (xt1 (xl (xl (xl (xl (xt4 (xt1 (xh)))))))) (xc (xt1 (xl (xl (xl (xl (xt4 (xt1 (xt1 (xh))))))))) (xc (xt1 (xl (xl (xl (xl (xt4 (xt1 (xt1 (xt1 (xh)))))))))) (xc (xt1 (xl (xl (xl (xl (xt1 (xt1 (xt1 (xh))))))))) (xn))))) (by decide +kernel)) ggX0_shake_X0_breakWeak
set_option maxRecDepth 20000 in
theorem ggX0_shake_X0_closeGaps : GoodIn wsX0_shake wsX0_closeGaps := goodIn_sub (xc (xt1 (xl (xl (xl (xr (xt4 (xt4 (xt4 (xh))))))))) (xa (xa (xc (xt1 (xl (xl (xl (xl (xh)))))) (xc (xt1 (xl (xl (xl (xl (xt4 (xt4 (xt1 (xh))))))))) (xc (xt1 (xl (xl (xl (xl (xt4 (xt4 (xt1 (xt1 (xh)))))))))) (xc (xt1 (xl (xl (xl (xr (xt4 (xt4 (xt4 (xt1 (xh)))))))))) (xc (xt1 (xl (xl (xl (xr (xt4 (xt4 (xt4 (xt1 (xt1 (xh))))))))))) (xc (xt1 (xl (xl (xl (xr (xt4 (xt4 (xt4 (xt1 (xt1 (xt1 (xh)))))))))))) (xc (xt1 (xl (xl (xl (xl (xt1 (xt1 (xt1 (xh))))))))) (xc (xt1 (xl (xl (xl (xr (xt16 (xh))))))) (xn))))))))) (fun _ h => xt1 (xl (xl (xr (h)))))) (fun _ h => xt1 (xl (xr (h)))))) (by decide +kernel)
set_option maxRecDepth 20000 in
theorem gX0_shake_X0_closeGaps : GoodIn wsX0_shake (wsV RX0 63 RX0 yX0_closeGaps wsX0_closeGaps) := goodIn_app (goodIn_sub (xc (xt1 (xl (xl (xl (xr (xt4 (xt4 (xt1 (xh))))))))) (xc (xt1 (xl (xl (xl (xr (xt4 (xt4 (xt1 (xt1 (xh)))))))))) (xc (xt1 (xl (xl (xl (xr (xt4 (xt4 (xt1 (xt1 (xt1 (xh))))))))))) (xc (xt1 (xl (xl (xl (xl (xt1 (xt1 (xt1 (xh))))))))) (xn))))) (by decide +kernel)) ggX0_shake_X0_closeGaps
theorem dX0_shake_0 : decode cX0_shake 0 = .ok (.iconst 0, 1) := by decide +kernel
theorem dX0_shake_1 : decode cX0_shake 1 = .ok (.istore_n 3, 1) := by decide +kernel
theorem dX0_shake_2 : decode cX0_shake 2 = .ok (.iconst 0, 1) := by decide +kernel
theorem dX0_shake_3 : decode cX0_shake 3 = .ok (.istore 4, 2) := by decide +kernel
theorem dX0_shake_5 : decode cX0_shake 5 = .ok (.iload 4, 2) := by decide +kernel
theorem dX0_shake_7 : decode cX0_shake 7 = .ok (.bipush 6, 2) := by decide +kernel
theorem dX0_shake_9 : decode cX0_shake 9 = .ok (.if_icmp .ge 52, 3) := by decide +kernel
theorem dX0_shake_12 : decode cX0_shake 12 = .ok (.iload_n 1, 1) := by decide +kernel
theorem dX0_shake_13 : decode cX0_shake 13 = .ok (.iload 4, 2) := by decide +kernel
theorem dX0_shake_15 : decode cX0_shake 15 = .ok (.invokestatic 57, 3) := by decide +kernel
theorem dX0_shake_18 : decode cX0_shake 18 = .ok (.istore 5, 2) := by decide +kernel
theorem dX0_shake_20 : decode cX0_shake 20 = .ok (.aload_n 0, 1) := by decide +kernel
theorem dX0_shake_21 : decode cX0_shake 21 = .ok (.getfield 19, 3) := by decide +kernel
theorem dX0_shake_24 : decode cX0_shake 24 = .ok (.iload 5, 2) := by decide +kernel
theorem dX0_shake_26 : decode cX0_shake 26 = .ok (.iaload, 1) := by decide +kernel
theorem dX0_shake_27 : decode cX0_shake 27 = .ok (.istore 6, 2) := by decide +kernel
theorem dX0_shake_29 : decode cX0_shake 29 = .ok (.aload_n 0, 1) := by decide +kernel
theorem dX0_shake_30 : decode cX0_shake 30 = .ok (.iload 5, 2) := by decide +kernel
theorem dX0_shake_32 : decode cX0_shake 32 = .ok (.iload_n 2, 1) := by decide +kernel
theorem dX0_shake_33 : decode cX0_shake 33 = .ok (.invokevirtual 60, 3) := by decide +kernel
theorem dX0_shake_36 : decode cX0_shake 36 = .ok (.aload_n 0, 1) := by decide +kernel
theorem dX0_shake_37 : decode cX0_shake 37 = .ok (.iload 5, 2) := by decide +kernel
theorem dX0_shake_39 : decode cX0_shake 39 = .ok (.invokevirtual 63, 3) := by decide +kernel
theorem dX0_shake_42 : decode cX0_shake 42 = .ok (.iload_n 3, 1) := by decide +kernel
theorem dX0_shake_43 : decode cX0_shake 43 = .ok (.iload 6, 2) := by decide +kernel
theorem dX0_shake_45 : decode cX0_shake 45 = .ok (.aload_n 0, 1) := by decide +kernel
theorem dX0_shake_46 : decode cX0_shake 46 = .ok (.getfield 19, 3) := by decide +kernel
theorem dX0_shake_49 : decode cX0_shake 49 = .ok (.iload 5, 2) := by decide +kernel
theorem dX0_shake_51 : decode cX0_shake 51 = .ok (.iaload, 1) := by decide +kernel
theorem dX0_shake_52 : decode cX0_shake 52 = .ok (.isub, 1) := by decide +kernel
theorem dX0_shake_53 : decode cX0_shake 53 = .ok (.iadd, 1) := by decide +kernel
theorem dX0_shake_54 : decode cX0_shake 54 = .ok (.istore_n 3, 1) := by decide +kernel
theorem dX0_shake_55 : decode cX0_shake 55 = .ok (.iinc 4 1, 3) := by decide +kernel
theorem dX0_shake_58 : decode cX0_shake 58 = .ok (.goto (-53), 3) := by decide +kernel
theorem dX0_shake_61 : decode cX0_shake 61 = .ok (.iload_n 3, 1) := by decide +kernel
theorem dX0_shake_62 : decode cX0_shake 62 = .ok (.ireturn, 1) := by decide +kernel
set_option maxRecDepth 20000 in
theorem ggX0_breakWeak_X0_bearsInStorm : GoodIn wsX0_breakWeak wsX0_bearsInStorm := goodIn_sub (xc (xt1 (xl (xl (xl (xl (xt4 (xt1 (xt1 (xt1 (xh)))))))))) (xa (xa (xa (xc (xt1 (xl (xl (xl (xl (xt1 (xt1 (xh)))))))) (xc (xt1 (xl (xl (xl (xl (xt4 (xt4 (xh)))))))) (xc (xt1 (xl (xl (xl (xl (xt4 (xt4 (xt1 (xh))))))))) (xc (xt1 (xl (xl (xl (xl (xt4 (xt4 (xt1 (xt1 (xh)))))))))) (xc (xt1 (xl (xl (xl (xl (xt4 (xt4 (xt1 (xt1 (xt1 (xh))))))))))) (xc (xt1 (xl (xl (xl (xl (xt4 (xt4 (xt4 (xh))))))))) (xc (xt1 (xl (xl (xl (xl (xt4 (xt4 (xt4 (xt1 (xh)))))))))) (xc (xt1 (xl (xl (xl (xl (xt4 (xt4 (xt4 (xt1 (xt1 (xh))))))))))) (xn))))))))) (fun _ h => xt1 (xl (xl (xr (h)))))) (fun _ h => xt1 (xl (xr (h))))) (fun _ h => xt1 (xr (h))))) (by decide +kernel)
set_option maxRecDepth 20000 in
theorem gX0_breakWeak_X0_bearsInStorm : GoodIn wsX0_breakWeak (wsV RX0 67 RX0 yX0_bearsInStorm wsX0_bearsInStorm) := goodIn_app (goodIn_sub (xc (xt1 (xl (xl (xl (xl (xt1 (xt1 (xt1 (xh))))))))) (xc (xt1 (xl (xl (xl (xl (xt4 (xh))))))) (xc (xt1 (xl (xl (xl (xl (xt4 (xt1 (xh)))))))) (xc (xt1 (xl (xl (xl (xl (xt4 (xt1 (xt1 (xh))))))))) (xn))))) (by decide +kernel)) ggX0_breakWeak_X0_bearsInStorm
set_option maxRecDepth 20000 in
theorem ggX0_breakWeak_X1_move : GoodIn wsX0_breakWeak wsX1_move := goodIn_sub (xc (xt1 (xl (xl (xl (xl (xt16 (xt1 (xt1 (xh))))))))) (xa (xc (xt1 (xl (xl (xl (xl (xt16 (xt1 (xt1 (xt1 (xh)))))))))) (xc (xt1 (xl (xl (xl (xl (xt16 (xt4 (xh)))))))) (xn))) (fun _ h => xt1 (xl (xr (h)))))) (by decide +kernel)
set_option maxRecDepth 20000 in
theorem gX0_breakWeak_X1_move : GoodIn wsX0_breakWeak (wsV RX0 39 RX1 yX1_move wsX1_move) := goodIn_app (goodIn_sub (xc (xt1 (xl (xl (xl (xl (xt4 (xt4 (xt4 (xt1 (xt1 (xt1 (xh)))))))))))) (xc (xt1 (xl (xl (xl (xl (xt16 (xh))))))) (xc (xt1 (xl (xl (xl (xl (xt16 (xt1 (xh)))))))) (xc (xt1 (xl (xl (xl (xl (xt4 (xt4 (xt1 (xt1 (xt1 (xh))))))))))) (xn))))) (by decide +kernel)) ggX0_breakWeak_X1_move
set_option maxRecDepth 20000 in
theorem ggX0_breakWeak_X1_weight : GoodIn wsX0_breakWeak wsX1_weight := goodIn_sub (xc (xt1 (xl (xl (xl (xr (xh)))))) (xa (xa (xc (xt1 (xl (xl (xl (xl (xt4 (xt4 (xt4 (xt1 (xh)))))))))) (xc (xt1 (xl (xl (xl (xl (xt4 (xt4 (xt4 (xt1 (xt1 (xh))))))))))) (xc (xt1 (xl (xl (xl (xr (xt1 (xh))))))) (xn)))) (fun _ h => xt1 (xl (xr (h))))) (fun _ h => xt1 (xr (h))))) (by decide +kernel)
set_option maxRecDepth 20000 in
theorem gX0_breakWeak_X1_weight : GoodIn wsX0_breakWeak (wsV RX0 43 RX1 yX1_weight wsX1_weight) := goodIn_app (goodIn_sub (xc (xt1 (xl (xl (xl (xl (xt16 (xt4 (xt1 (xh))))))))) (xc (xt1 (xl (xl (xl (xl (xt16 (xt4 (xt1 (xt1 (xh)))))))))) (xc (xt1 (xl (xl (xl (xl (xt16 (xt4 (xt1 (xt1 (xt1 (xh))))))))))) (xc (xt1 (xl (xl (xl (xl (xt4 (xt4 (xt1 (xt1 (xt1 (xh))))))))))) (xn))))) (by decide +kernel)) ggX0_breakWeak_X1_weight
theorem dX0_breakWeak_0 : decode cX0_breakWeak 0 = .ok (.iconst 0, 1) := by decide +kernel
theorem dX0_breakWeak_1 : decode cX0_breakWeak 1 = .ok (.istore_n 3, 1) := by decide +kernel
theorem dX0_breakWeak_2 : decode cX0_breakWeak 2 = .ok (.aload_n 0, 1) := by decide +kernel
theorem dX0_breakWeak_3 : decode cX0_breakWeak 3 = .ok (.getfield 19, 3) := by decide +kernel
theorem dX0_breakWeak_6 : decode cX0_breakWeak 6 = .ok (.iload_n 1, 1) := by decide +kernel
theorem dX0_breakWeak_7 : decode cX0_breakWeak 7 = .ok (.iaload, 1) := by decide +kernel
theorem dX0_breakWeak_8 : decode cX0_breakWeak 8 = .ok (.iconst 1, 1) := by decide +kernel
theorem dX0_breakWeak_9 : decode cX0_breakWeak 9 = .ok (.isub, 1) := by decide +kernel
theorem dX0_breakWeak_10 : decode cX0_breakWeak 10 = .ok (.istore 4, 2) := by decide +kernel
theorem dX0_breakWeak_12 : decode cX0_breakWeak 12 = .ok (.iload 4, 2) := by decide +kernel
theorem dX0_breakWeak_14 : decode cX0_breakWeak 14 = .ok (.ifCond .lt 57, 3) := by decide +kernel
theorem dX0_breakWeak_17 : decode cX0_breakWeak 17 = .ok (.aload_n 0, 1) := by decide +kernel
theorem dX0_breakWeak_18 : decode cX0_breakWeak 18 = .ok (.getfield 15, 3) := by decide +kernel
theorem dX0_breakWeak_21 : decode cX0_breakWeak 21 = .ok (.iload_n 1, 1) := by decide +kernel
theorem dX0_breakWeak_22 : decode cX0_breakWeak 22 = .ok (.bipush 10, 2) := by decide +kernel
theorem dX0_breakWeak_24 : decode cX0_breakWeak 24 = .ok (.imul, 1) := by decide +kernel
theorem dX0_breakWeak_25 : decode cX0_breakWeak 25 = .ok (.iload 4, 2) := by decide +kernel
theorem dX0_breakWeak_27 : decode cX0_breakWeak 27 = .ok (.iadd, 1) := by decide +kernel
theorem dX0_breakWeak_28 : decode cX0_breakWeak 28 = .ok (.iaload, 1) := by decide +kernel
theorem dX0_breakWeak_29 : decode cX0_breakWeak 29 = .ok (.istore 5, 2) := by decide +kernel
theorem dX0_breakWeak_31 : decode cX0_breakWeak 31 = .ok (.iload_n 3, 1) := by decide +kernel
theorem dX0_breakWeak_32 : decode cX0_breakWeak 32 = .ok (.aload_n 0, 1) := by decide +kernel
theorem dX0_breakWeak_33 : decode cX0_breakWeak 33 = .ok (.iload 5, 2) := by decide +kernel
theorem dX0_breakWeak_35 : decode cX0_breakWeak 35 = .ok (.iload_n 2, 1) := by decide +kernel
theorem dX0_breakWeak_36 : decode cX0_breakWeak 36 = .ok (.invokevirtual 67, 3) := by decide +kernel
theorem dX0_breakWeak_39 : decode cX0_breakWeak 39 = .ok (.if_icmp .le 14, 3) := by decide +kernel
theorem dX0_breakWeak_42 : decode cX0_breakWeak 42 = .ok (.aload_n 0, 1) := by decide +kernel
theorem dX0_breakWeak_43 : decode cX0_breakWeak 43 = .ok (.getfield 9, 3) := by decide +kernel
theorem dX0_breakWeak_46 : decode cX0_breakWeak 46 = .ok (.iload 5, 2) := by decide +kernel
theorem dX0_breakWeak_48 : decode cX0_breakWeak 48 = .ok (.iconst 3, 1) := by decide +kernel
theorem dX0_breakWeak_49 : decode cX0_breakWeak 49 = .ok (.iconst (-1), 1) := by decide +kernel
theorem dX0_breakWeak_50 : decode cX0_breakWeak 50 = .ok (.invokevirtual 39, 3) := by decide +kernel
theorem dX0_breakWeak_53 : decode cX0_breakWeak 53 = .ok (.iload_n 3, 1) := by decide +kernel
theorem dX0_breakWeak_54 : decode cX0_breakWeak 54 = .ok (.aload_n 0, 1) := by decide +kernel
theorem dX0_breakWeak_55 : decode cX0_breakWeak 55 = .ok (.getfield 9, 3) := by decide +kernel
theorem dX0_breakWeak_58 : decode cX0_breakWeak 58 = .ok (.iload 5, 2) := by decide +kernel
theorem dX0_breakWeak_60 : decode cX0_breakWeak 60 = .ok (.invokevirtual 43, 3) := by decide +kernel
theorem dX0_breakWeak_63 : decode cX0_breakWeak 63 = .ok (.iadd, 1) := by decide +kernel
theorem dX0_breakWeak_64 : decode cX0_breakWeak 64 = .ok (.istore_n 3, 1) := by decide +kernel
theorem dX0_breakWeak_65 : decode cX0_breakWeak 65 = .ok (.iinc 4 (-1), 3) := by decide +kernel
theorem dX0_breakWeak_68 : decode cX0_breakWeak 68 = .ok (.goto (-56), 3) := by decide +kernel
theorem dX0_breakWeak_71 : decode cX0_breakWeak 71 = .ok (.return_, 1) := by decide +kernel
set_option maxRecDepth 20000 in
theorem ggX0_bearsInStorm_X1_bears : GoodIn wsX0_bearsInStorm wsX1_bears := goodIn_sub (xc (xt1 (xl (xl (xl (xt4 (xt1 (xh))))))) (xa (xa (xc (xt1 (xl (xl (xl (xt4 (xt1 (xt1 (xh)))))))) (xc (xt1 (xl (xl (xl (xt4 (xt1 (xt1 (xt1 (xh))))))))) (xn))) (fun _ h => xt1 (xl (xr (h))))) (fun _ h => xt1 (xr (h))))) (by decide +kernel)
set_option maxRecDepth 20000 in
theorem gX0_bearsInStorm_X1_bears : GoodIn wsX0_bearsInStorm (wsV RX0 47 RX1 yX1_bears wsX1_bears) := goodIn_app (goodIn_sub (xc (xt1 (xl (xl (xl (xt1 (xh)))))) (xc (xt1 (xl (xl (xl (xt1 (xt1 (xh))))))) (xc (xt1 (xl (xl (xl (xt1 (xt1 (xt1 (xh)))))))) (xc (xt1 (xl (xl (xl (xt4 (xh)))))) (xn))))) (by decide +kernel)) ggX0_bearsInStorm_X1_bears
theorem dX0_bearsInStorm_0 : decode cX0_bearsInStorm 0 = .ok (.aload_n 0, 1) := by decide +kernel
theorem dX0_bearsInStorm_1 : decode cX0_bearsInStorm 1 = .ok (.getfield 9, 3) := by decide +kernel
theorem dX0_bearsInStorm_4 : decode cX0_bearsInStorm 4 = .ok (.iload_n 1, 1) := by decide +kernel
theorem dX0_bearsInStorm_5 : decode cX0_bearsInStorm 5 = .ok (.invokevirtual 47, 3) := by decide +kernel
theorem dX0_bearsInStorm_8 : decode cX0_bearsInStorm 8 = .ok (.istore_n 3, 1) := by decide +kernel
theorem dX0_bearsInStorm_9 : decode cX0_bearsInStorm 9 = .ok (.iload_n 3, 1) := by decide +kernel
theorem dX0_bearsInStorm_10 : decode cX0_bearsInStorm 10 = .ok (.iload_n 3, 1) := by decide +kernel
theorem dX0_bearsInStorm_11 : decode cX0_bearsInStorm 11 = .ok (.iload_n 2, 1) := by decide +kernel
theorem dX0_bearsInStorm_12 : decode cX0_bearsInStorm 12 = .ok (.imul, 1) := by decide +kernel
theorem dX0_bearsInStorm_13 : decode cX0_bearsInStorm 13 = .ok (.bipush 99, 2) := by decide +kernel
theorem dX0_bearsInStorm_15 : decode cX0_bearsInStorm 15 = .ok (.iadd, 1) := by decide +kernel
theorem dX0_bearsInStorm_16 : decode cX0_bearsInStorm 16 = .ok (.bipush 100, 2) := by decide +kernel
theorem dX0_bearsInStorm_18 : decode cX0_bearsInStorm 18 = .ok (.idiv, 1) := by decide +kernel
theorem dX0_bearsInStorm_19 : decode cX0_bearsInStorm 19 = .ok (.isub, 1) := by decide +kernel
theorem dX0_bearsInStorm_20 : decode cX0_bearsInStorm 20 = .ok (.ireturn, 1) := by decide +kernel
set_option maxRecDepth 20000 in
theorem ggX0_closeGaps_X0_setTop : GoodIn wsX0_closeGaps wsX0_setTop := goodIn_sub (xc (xt1 (xl (xl (xt4 (xt1 (xt1 (xt1 (xh)))))))) (xa (xc (xt1 (xl (xl (xt1 (xh))))) (xc (xt1 (xl (xl (xh)))) (xn))) (fun _ h => xt1 (xl (xr (h)))))) (by decide +kernel)
set_option maxRecDepth 20000 in
theorem gX0_closeGaps_X0_setTop : GoodIn wsX0_closeGaps (wsV RX0 35 RX0 yX0_setTop wsX0_setTop) := goodIn_app (goodIn_sub (xc (xt1 (xl (xl (xt1 (xt1 (xt1 (xh))))))) (xc (xt1 (xl (xl (xt4 (xh))))) (xc (xt1 (xl (xl (xt4 (xt1 (xh)))))) (xc (xt1 (xl (xl (xt4 (xt1 (xt1 (xh))))))) (xn))))) (by decide +kernel)) ggX0_closeGaps_X0_setTop
theorem dX0_closeGaps_0 : decode cX0_closeGaps 0 = .ok (.aload_n 0, 1) := by decide +kernel
theorem dX0_closeGaps_1 : decode cX0_closeGaps 1 = .ok (.getfield 19, 3) := by decide +kernel
theorem dX0_closeGaps_4 : decode cX0_closeGaps 4 = .ok (.iload_n 1, 1) := by decide +kernel
theorem dX0_closeGaps_5 : decode cX0_closeGaps 5 = .ok (.iaload, 1) := by decide +kernel
theorem dX0_closeGaps_6 : decode cX0_closeGaps 6 = .ok (.istore_n 2, 1) := by decide +kernel
theorem dX0_closeGaps_7 : decode cX0_closeGaps 7 = .ok (.aload_n 0, 1) := by decide +kernel
theorem dX0_closeGaps_8 : decode cX0_closeGaps 8 = .ok (.getfield 19, 3) := by decide +kernel
theorem dX0_closeGaps_11 : decode cX0_closeGaps 11 = .ok (.iload_n 1, 1) := by decide +kernel
theorem dX0_closeGaps_12 : decode cX0_closeGaps 12 = .ok (.iconst 0, 1) := by decide +kernel
theorem dX0_closeGaps_13 : decode cX0_closeGaps 13 = .ok (.iastore, 1) := by decide +kernel
theorem dX0_closeGaps_14 : decode cX0_closeGaps 14 = .ok (.iconst 0, 1) := by decide +kernel
theorem dX0_closeGaps_15 : decode cX0_closeGaps 15 = .ok (.istore_n 3, 1) := by decide +kernel
theorem dX0_closeGaps_16 : decode cX0_closeGaps 16 = .ok (.iload_n 3, 1) := by decide +kernel
theorem dX0_closeGaps_17 : decode cX0_closeGaps 17 = .ok (.iload_n 2, 1) := by decide +kernel
theorem dX0_closeGaps_18 : decode cX0_closeGaps 18 = .ok (.if_icmp .ge 43, 3) := by decide +kernel
theorem dX0_closeGaps_21 : decode cX0_closeGaps 21 = .ok (.aload_n 0, 1) := by decide +kernel
theorem dX0_closeGaps_22 : decode cX0_closeGaps 22 = .ok (.getfield 15, 3) := by decide +kernel
theorem dX0_closeGaps_25 : decode cX0_closeGaps 25 = .ok (.iload_n 1, 1) := by decide +kernel
theorem dX0_closeGaps_26 : decode cX0_closeGaps 26 = .ok (.bipush 10, 2) := by decide +kernel
theorem dX0_closeGaps_28 : decode cX0_closeGaps 28 = .ok (.imul, 1) := by decide +kernel
theorem dX0_closeGaps_29 : decode cX0_closeGaps 29 = .ok (.iload_n 3, 1) := by decide +kernel
theorem dX0_closeGaps_30 : decode cX0_closeGaps 30 = .ok (.iadd, 1) := by decide +kernel
theorem dX0_closeGaps_31 : decode cX0_closeGaps 31 = .ok (.iaload, 1) := by decide +kernel
theorem dX0_closeGaps_32 : decode cX0_closeGaps 32 = .ok (.istore 4, 2) := by decide +kernel
theorem dX0_closeGaps_34 : decode cX0_closeGaps 34 = .ok (.aload_n 0, 1) := by decide +kernel
theorem dX0_closeGaps_35 : decode cX0_closeGaps 35 = .ok (.getfield 9, 3) := by decide +kernel
theorem dX0_closeGaps_38 : decode cX0_closeGaps 38 = .ok (.getfield 26, 3) := by decide +kernel
theorem dX0_closeGaps_41 : decode cX0_closeGaps 41 = .ok (.iload 4, 2) := by decide +kernel
theorem dX0_closeGaps_43 : decode cX0_closeGaps 43 = .ok (.iaload, 1) := by decide +kernel
theorem dX0_closeGaps_44 : decode cX0_closeGaps 44 = .ok (.iconst 1, 1) := by decide +kernel
theorem dX0_closeGaps_45 : decode cX0_closeGaps 45 = .ok (.if_icmp .ne 10, 3) := by decide +kernel
theorem dX0_closeGaps_48 : decode cX0_closeGaps 48 = .ok (.aload_n 0, 1) := by decide +kernel
theorem dX0_closeGaps_49 : decode cX0_closeGaps 49 = .ok (.iload_n 1, 1) := by decide +kernel
theorem dX0_closeGaps_50 : decode cX0_closeGaps 50 = .ok (.iload 4, 2) := by decide +kernel
theorem dX0_closeGaps_52 : decode cX0_closeGaps 52 = .ok (.invokevirtual 35, 3) := by decide +kernel
theorem dX0_closeGaps_55 : decode cX0_closeGaps 55 = .ok (.iinc 3 1, 3) := by decide +kernel
theorem dX0_closeGaps_58 : decode cX0_closeGaps 58 = .ok (.goto (-42), 3) := by decide +kernel
theorem dX0_closeGaps_61 : decode cX0_closeGaps 61 = .ok (.return_, 1) := by decide +kernel
