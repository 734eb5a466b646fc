theorem dX6_init_0 : decode cX6_init 0 = .ok (.aload_n 0, 1) := by decide +kernel
theorem dX6_init_1 : decode cX6_init 1 = .ok (.invokespecial 1, 3) := by decide +kernel
theorem dX6_init_4 : decode cX6_init 4 = .ok (.aload_n 0, 1) := by decide +kernel
theorem dX6_init_5 : decode cX6_init 5 = .ok (.aload_n 1, 1) := by decide +kernel
theorem dX6_init_6 : decode cX6_init 6 = .ok (.putfield 7, 3) := by decide +kernel
theorem dX6_init_9 : decode cX6_init 9 = .ok (.aload_n 0, 1) := by decide +kernel
theorem dX6_init_10 : decode cX6_init 10 = .ok (.bipush 20, 2) := by decide +kernel
theorem dX6_init_12 : decode cX6_init 12 = .ok (.newarray .int, 2) := by decide +kernel
theorem dX6_init_14 : decode cX6_init 14 = .ok (.putfield 13, 3) := by decide +kernel
theorem dX6_init_17 : decode cX6_init 17 = .ok (.aload_n 0, 1) := by decide +kernel
theorem dX6_init_18 : decode cX6_init 18 = .ok (.bipush 21, 2) := by decide +kernel
theorem dX6_init_20 : decode cX6_init 20 = .ok (.newarray .int, 2) := by decide +kernel
theorem dX6_init_22 : decode cX6_init 22 = .ok (.putfield 17, 3) := by decide +kernel
theorem dX6_init_25 : decode cX6_init 25 = .ok (.aload_n 0, 1) := by decide +kernel
theorem dX6_init_26 : decode cX6_init 26 = .ok (.iconst 0, 1) := by decide +kernel
theorem dX6_init_27 : decode cX6_init 27 = .ok (.putfield 20, 3) := by decide +kernel
theorem dX6_init_30 : decode cX6_init 30 = .ok (.return_, 1) := by decide +kernel
set_option maxRecDepth 20000 in
theorem ggX6_choose_X6_insert : GoodIn wsX6_choose wsX6_insert := goodIn_sub (xc (xt1 (xl (xl (xl (xt4 (xt1 (xt1 (xh)))))))) (xa (xa (xa (xc (xt1 (xl (xl (xl (xh))))) (xc (xt1 (xl (xl (xl (xt4 (xt1 (xt1 (xt1 (xh))))))))) (xc (xt1 (xl (xl (xl (xt4 (xt4 (xh))))))) (xc (xt1 (xl (xl (xl (xt4 (xt4 (xt1 (xh)))))))) (xc (xt1 (xl (xl (xl (xt4 (xt4 (xt1 (xt1 (xh))))))))) (xc (xt1 (xl (xl (xl (xt4 (xt1 (xh))))))) (xc (xt1 (xl (xl (xl (xt4 (xt4 (xt1 (xt1 (xt1 (xh)))))))))) (xc (xt1 (xl (xl (xl (xt1 (xh)))))) (xc (xt1 (xl (xl (xl (xt4 (xt4 (xt4 (xh)))))))) (xc (xt1 (xl (xl (xl (xt4 (xt4 (xt4 (xt1 (xh))))))))) (xc (xt1 (xl (xl (xl (xt4 (xt4 (xt4 (xt1 (xt1 (xh)))))))))) (xc (xt1 (xl (xl (xl (xt4 (xt4 (xt4 (xt1 (xt1 (xt1 (xh))))))))))) (xc (xt1 (xl (xl (xl (xt16 (xh)))))) (xc (xt1 (xl (xl (xl (xt16 (xt1 (xh))))))) (xc (xt1 (xl (xl (xl (xt16 (xt1 (xt1 (xh)))))))) (xc (xt1 (xl (xl (xl (xt16 (xt1 (xt1 (xt1 (xh))))))))) (xc (xt1 (xl (xl (xl (xt16 (xt4 (xh))))))) (xc (xt1 (xl (xl (xl (xt16 (xt4 (xt1 (xh)))))))) (xc (xt1 (xl (xl (xl (xt16 (xt4 (xt1 (xt1 (xh))))))))) (xc (xt1 (xl (xl (xl (xt16 (xt4 (xt1 (xt1 (xt1 (xh)))))))))) (xn))))))))))))))))))))) (fun _ h => xt1 (xl (xl (xr (h)))))) (fun _ h => xt1 (xl (xr (h))))) (fun _ h => xt1 (xr (h))))) (by decide +kernel)
set_option maxRecDepth 20000 in
theorem gX6_choose_X6_insert : GoodIn wsX6_choose (wsV RX6 30 RX6 yX6_insert wsX6_insert) := goodIn_app (goodIn_sub (xc (xt1 (xl (xl (xl (xt1 (xt1 (xh))))))) (xc (xt1 (xl (xl (xl (xt1 (xt1 (xt1 (xh)))))))) (xc (xt1 (xl (xl (xl (xt4 (xh)))))) (xc (xt1 (xl (xl (xl (xt4 (xt1 (xh))))))) (xn))))) (by decide +kernel)) ggX6_choose_X6_insert
theorem dX6_choose_0 : decode cX6_choose 0 = .ok (.aload_n 0, 1) := by decide +kernel
theorem dX6_choose_1 : decode cX6_choose 1 = .ok (.iconst 0, 1) := by decide +kernel
theorem dX6_choose_2 : decode cX6_choose 2 = .ok (.putfield 20, 3) := by decide +kernel
theorem dX6_choose_5 : decode cX6_choose 5 = .ok (.iconst 0, 1) := by decide +kernel
theorem dX6_choose_6 : decode cX6_choose 6 = .ok (.istore_n 2, 1) := by decide +kernel
theorem dX6_choose_7 : decode cX6_choose 7 = .ok (.iload_n 2, 1) := by decide +kernel
theorem dX6_choose_8 : decode cX6_choose 8 = .ok (.bipush 20, 2) := by decide +kernel
theorem dX6_choose_10 : decode cX6_choose 10 = .ok (.if_icmp .ge 46, 3) := by decide +kernel
theorem dX6_choose_13 : decode cX6_choose 13 = .ok (.iload_n 2, 1) := by decide +kernel
theorem dX6_choose_14 : decode cX6_choose 14 = .ok (.aload_n 0, 1) := by decide +kernel
theorem dX6_choose_15 : decode cX6_choose 15 = .ok (.getfield 7, 3) := by decide +kernel
theorem dX6_choose_18 : decode cX6_choose 18 = .ok (.getfield 24, 3) := by decide +kernel
theorem dX6_choose_21 : decode cX6_choose 21 = .ok (.if_icmp .ge 35, 3) := by decide +kernel
theorem dX6_choose_24 : decode cX6_choose 24 = .ok (.iload_n 1, 1) := by decide +kernel
theorem dX6_choose_25 : decode cX6_choose 25 = .ok (.iload_n 2, 1) := by decide +kernel
theorem dX6_choose_26 : decode cX6_choose 26 = .ok (.ishr, 1) := by decide +kernel
theorem dX6_choose_27 : decode cX6_choose 27 = .ok (.iconst 1, 1) := by decide +kernel
theorem dX6_choose_28 : decode cX6_choose 28 = .ok (.iand, 1) := by decide +kernel
theorem dX6_choose_29 : decode cX6_choose 29 = .ok (.iconst 1, 1) := by decide +kernel
theorem dX6_choose_30 : decode cX6_choose 30 = .ok (.if_icmp .ne 20, 3) := by decide +kernel
theorem dX6_choose_33 : decode cX6_choose 33 = .ok (.aload_n 0, 1) := by decide +kernel
theorem dX6_choose_34 : decode cX6_choose 34 = .ok (.getfield 7, 3) := by decide +kernel
theorem dX6_choose_37 : decode cX6_choose 37 = .ok (.getfield 27, 3) := by decide +kernel
theorem dX6_choose_40 : decode cX6_choose 40 = .ok (.iload_n 2, 1) := by decide +kernel
theorem dX6_choose_41 : decode cX6_choose 41 = .ok (.iaload, 1) := by decide +kernel
theorem dX6_choose_42 : decode cX6_choose 42 = .ok (.ifCond .ne 8, 3) := by decide +kernel
theorem dX6_choose_45 : decode cX6_choose 45 = .ok (.aload_n 0, 1) := by decide +kernel
theorem dX6_choose_46 : decode cX6_choose 46 = .ok (.iload_n 2, 1) := by decide +kernel
theorem dX6_choose_47 : decode cX6_choose 47 = .ok (.invokevirtual 30, 3) := by decide +kernel
theorem dX6_choose_50 : decode cX6_choose 50 = .ok (.iinc 2 1, 3) := by decide +kernel
theorem dX6_choose_53 : decode cX6_choose 53 = .ok (.goto (-46), 3) := by decide +kernel
theorem dX6_choose_56 : decode cX6_choose 56 = .ok (.aload_n 0, 1) := by decide +kernel
theorem dX6_choose_57 : decode cX6_choose 57 = .ok (.getfield 20, 3) := by decide +kernel
theorem dX6_choose_60 : decode cX6_choose 60 = .ok (.ireturn, 1) := by decide +kernel
set_option maxRecDepth 20000 in
theorem ggX6_insert_X6_reach : GoodIn wsX6_insert wsX6_reach := goodIn_sub (xc (xt1 (xl (xl (xl (xt4 (xt1 (xt1 (xh)))))))) (xa (xa (xa (xc (xt1 (xl (xl (xl (xt4 (xt1 (xt1 (xt1 (xh))))))))) (xc (xt1 (xl (xl (xl (xt4 (xt4 (xh))))))) (xc (xt1 (xl (xl (xl (xt4 (xt4 (xt1 (xh)))))))) (xc (xt1 (xl (xl (xl (xt4 (xt4 (xt1 (xt1 (xh))))))))) (xc (xt1 (xl (xl (xl (xt4 (xt4 (xt1 (xt1 (xt1 (xh)))))))))) (xc (xt1 (xl (xl (xl (xt4 (xt4 (xt4 (xh)))))))) (xc (xt1 (xl (xl (xl (xt4 (xt4 (xt4 (xt1 (xh))))))))) (xc (xt1 (xl (xl (xl (xt4 (xt4 (xt4 (xt1 (xt1 (xh)))))))))) (xc (xt1 (xl (xl (xl (xt4 (xt4 (xt4 (xt1 (xt1 (xt1 (xh))))))))))) (xc (xt1 (xl (xl (xl (xt16 (xh)))))) (xc (xt1 (xl (xl (xl (xt16 (xt1 (xh))))))) (xc (xt1 (xl (xl (xl (xt16 (xt1 (xt1 (xh)))))))) (xc (xt1 (xl (xl (xl (xt16 (xt1 (xt1 (xt1 (xh))))))))) (xn)))))))))))))) (fun _ h => xt1 (xl (xl (xr (h)))))) (fun _ h => xt1 (xl (xr (h))))) (fun _ h => xt1 (xr (h))))) (by decide +kernel)
set_option maxRecDepth 20000 in
theorem gX6_insert_X6_reach : GoodIn wsX6_insert (wsV RX6 34 RX6 yX6_reach wsX6_reach) := goodIn_app (goodIn_sub (xc (xt1 (xl (xl (xl (xt1 (xt1 (xh))))))) (xc (xt1 (xl (xl (xl (xt1 (xt1 (xt1 (xh)))))))) (xc (xt1 (xl (xl (xl (xt4 (xh)))))) (xc (xt1 (xl (xl (xl (xt4 (xt1 (xh))))))) (xn))))) (by decide +kernel)) ggX6_insert_X6_reach
theorem dX6_insert_0 : decode cX6_insert 0 = .ok (.aload_n 0, 1) := by decide +kernel
theorem dX6_insert_1 : decode cX6_insert 1 = .ok (.getfield 20, 3) := by decide +kernel
theorem dX6_insert_4 : decode cX6_insert 4 = .ok (.istore_n 2, 1) := by decide +kernel
theorem dX6_insert_5 : decode cX6_insert 5 = .ok (.iload_n 2, 1) := by decide +kernel
theorem dX6_insert_6 : decode cX6_insert 6 = .ok (.ifCond .le 43, 3) := by decide +kernel
theorem dX6_insert_9 : decode cX6_insert 9 = .ok (.aload_n 0, 1) := by decide +kernel
theorem dX6_insert_10 : decode cX6_insert 10 = .ok (.aload_n 0, 1) := by decide +kernel
theorem dX6_insert_11 : decode cX6_insert 11 = .ok (.getfield 13, 3) := by decide +kernel
theorem dX6_insert_14 : decode cX6_insert 14 = .ok (.iload_n 2, 1) := by decide +kernel
theorem dX6_insert_15 : decode cX6_insert 15 = .ok (.iconst 1, 1) := by decide +kernel
theorem dX6_insert_16 : decode cX6_insert 16 = .ok (.isub, 1) := by decide +kernel
theorem dX6_insert_17 : decode cX6_insert 17 = .ok (.iaload, 1) := by decide +kernel
theorem dX6_insert_18 : decode cX6_insert 18 = .ok (.invokevirtual 34, 3) := by decide +kernel
theorem dX6_insert_21 : decode cX6_insert 21 = .ok (.aload_n 0, 1) := by decide +kernel
theorem dX6_insert_22 : decode cX6_insert 22 = .ok (.iload_n 1, 1) := by decide +kernel
theorem dX6_insert_23 : decode cX6_insert 23 = .ok (.invokevirtual 34, 3) := by decide +kernel
theorem dX6_insert_26 : decode cX6_insert 26 = .ok (.if_icmp .le 23, 3) := by decide +kernel
theorem dX6_insert_29 : decode cX6_insert 29 = .ok (.aload_n 0, 1) := by decide +kernel
theorem dX6_insert_30 : decode cX6_insert 30 = .ok (.getfield 13, 3) := by decide +kernel
theorem dX6_insert_33 : decode cX6_insert 33 = .ok (.iload_n 2, 1) := by decide +kernel
theorem dX6_insert_34 : decode cX6_insert 34 = .ok (.aload_n 0, 1) := by decide +kernel
theorem dX6_insert_35 : decode cX6_insert 35 = .ok (.getfield 13, 3) := by decide +kernel
theorem dX6_insert_38 : decode cX6_insert 38 = .ok (.iload_n 2, 1) := by decide +kernel
theorem dX6_insert_39 : decode cX6_insert 39 = .ok (.iconst 1, 1) := by decide +kernel
theorem dX6_insert_40 : decode cX6_insert 40 = .ok (.isub, 1) := by decide +kernel
theorem dX6_insert_41 : decode cX6_insert 41 = .ok (.iaload, 1) := by decide +kernel
theorem dX6_insert_42 : decode cX6_insert 42 = .ok (.iastore, 1) := by decide +kernel
theorem dX6_insert_43 : decode cX6_insert 43 = .ok (.iinc 2 (-1), 3) := by decide +kernel
theorem dX6_insert_46 : decode cX6_insert 46 = .ok (.goto (-41), 3) := by decide +kernel
theorem dX6_insert_49 : decode cX6_insert 49 = .ok (.aload_n 0, 1) := by decide +kernel
theorem dX6_insert_50 : decode cX6_insert 50 = .ok (.getfield 13, 3) := by decide +kernel
theorem dX6_insert_53 : decode cX6_insert 53 = .ok (.iload_n 2, 1) := by decide +kernel
theorem dX6_insert_54 : decode cX6_insert 54 = .ok (.iload_n 1, 1) := by decide +kernel
theorem dX6_insert_55 : decode cX6_insert 55 = .ok (.iastore, 1) := by decide +kernel
theorem dX6_insert_56 : decode cX6_insert 56 = .ok (.aload_n 0, 1) := by decide +kernel
theorem dX6_insert_57 : decode cX6_insert 57 = .ok (.dup, 1) := by decide +kernel
theorem dX6_insert_58 : decode cX6_insert 58 = .ok (.getfield 20, 3) := by decide +kernel
theorem dX6_insert_61 : decode cX6_insert 61 = .ok (.iconst 1, 1) := by decide +kernel
theorem dX6_insert_62 : decode cX6_insert 62 = .ok (.iadd, 1) := by decide +kernel
theorem dX6_insert_63 : decode cX6_insert 63 = .ok (.putfield 20, 3) := by decide +kernel
theorem dX6_insert_66 : decode cX6_insert 66 = .ok (.return_, 1) := by decide +kernel
set_option maxRecDepth 20000 in
theorem ggX6_reach_X1_weight : GoodIn wsX6_reach wsX1_weight := goodIn_sub (xc (xt1 (xl (xl (xl (xt4 (xt1 (xh))))))) (xa (xa (xc (xt1 (xl (xl (xl (xt4 (xt1 (xt1 (xh)))))))) (xc (xt1 (xl (xl (xl (xt4 (xt1 (xt1 (xt1 (xh))))))))) (xc (xt1 (xl (xl (xl (xt4 (xt4 (xh))))))) (xn)))) (fun _ h => xt1 (xl (xr (h))))) (fun _ h => xt1 (xr (h))))) (by decide +kernel)
set_option maxRecDepth 20000 in
theorem gX6_reach_X1_weight : GoodIn wsX6_reach (wsV RX6 38 RX1 yX1_weight wsX1_weight) := goodIn_app (goodIn_sub (xc (xt1 (xl (xl (xl (xt1 (xh)))))) (xc (xt1 (xl (xl (xl (xt1 (xt1 (xh))))))) (xc (xt1 (xl (xl (xl (xt1 (xt1 (xt1 (xh)))))))) (xc (xt1 (xl (xl (xl (xt4 (xh)))))) (xn))))) (by decide +kernel)) ggX6_reach_X1_weight
set_option maxRecDepth 20000 in
theorem ggX6_reach_X1_bears : GoodIn wsX6_reach wsX1_bears := goodIn_sub (xc (xt1 (xl (xl (xl (xt4 (xt4 (xt4 (xh)))))))) (xa (xa (xc (xt1 (xl (xl (xl (xt4 (xt1 (xt1 (xh)))))))) (xc (xt1 (xl (xl (xl (xt4 (xt1 (xt1 (xt1 (xh))))))))) (xn))) (fun _ h => xt1 (xl (xr (h))))) (fun _ h => xt1 (xr (h))))) (by decide +kernel)
set_option maxRecDepth 20000 in
theorem gX6_reach_X1_bears : GoodIn wsX6_reach (wsV RX6 41 RX1 yX1_bears wsX1_bears) := goodIn_app (goodIn_sub (xc (xt1 (xl (xl (xl (xt4 (xt4 (xt1 (xh)))))))) (xc (xt1 (xl (xl (xl (xt4 (xt4 (xt1 (xt1 (xh))))))))) (xc (xt1 (xl (xl (xl (xt4 (xt4 (xt1 (xt1 (xt1 (xh)))))))))) (xc (xt1 (xl (xl (xl (xt4 (xh)))))) (xn))))) (by decide +kernel)) ggX6_reach_X1_bears
theorem dX6_reach_0 : decode cX6_reach 0 = .ok (.aload_n 0, 1) := by decide +kernel
theorem dX6_reach_1 : decode cX6_reach 1 = .ok (.getfield 7, 3) := by decide +kernel
theorem dX6_reach_4 : decode cX6_reach 4 = .ok (.iload_n 1, 1) := by decide +kernel
theorem dX6_reach_5 : decode cX6_reach 5 = .ok (.invokevirtual 38, 3) := by decide +kernel
theorem dX6_reach_8 : decode cX6_reach 8 = .ok (.aload_n 0, 1) := by decide +kernel
theorem dX6_reach_9 : decode cX6_reach 9 = .ok (.getfield 7, 3) := by decide +kernel
theorem dX6_reach_12 : decode cX6_reach 12 = .ok (.iload_n 1, 1) := by decide +kernel
theorem dX6_reach_13 : decode cX6_reach 13 = .ok (.invokevirtual 41, 3) := by decide +kernel
theorem dX6_reach_16 : decode cX6_reach 16 = .ok (.iadd, 1) := by decide +kernel
theorem dX6_reach_17 : decode cX6_reach 17 = .ok (.ireturn, 1) := by decide +kernel
set_option maxRecDepth 20000 in
theorem ggX6_greatest_X1_bears : GoodIn wsX6_greatest wsX1_bears := goodIn_sub (xc (xt1 (xl (xl (xl (xt4 (xt4 (xt4 (xt1 (xh))))))))) (xa (xa (xc (xt1 (xl (xl (xl (xt4 (xt4 (xt4 (xt1 (xt1 (xh)))))))))) (xc (xt1 (xl (xl (xl (xt4 (xt4 (xt4 (xt1 (xt1 (xt1 (xh))))))))))) (xn))) (fun _ h => xt1 (xl (xr (h))))) (fun _ h => xt1 (xr (h))))) (by decide +kernel)
set_option maxRecDepth 20000 in
theorem gX6_greatest_X1_bears : GoodIn wsX6_greatest (wsV RX6 41 RX1 yX1_bears wsX1_bears) := goodIn_app (goodIn_sub (xc (xt1 (xl (xl (xl (xt4 (xt4 (xt1 (xh)))))))) (xc (xt1 (xl (xl (xl (xt4 (xt4 (xt1 (xt1 (xh))))))))) (xc (xt1 (xl (xl (xl (xt4 (xt4 (xt1 (xt1 (xt1 (xh)))))))))) (xc (xt1 (xl (xl (xl (xt4 (xt4 (xt4 (xh)))))))) (xn))))) (by decide +kernel)) ggX6_greatest_X1_bears
set_option maxRecDepth 20000 in
theorem ggX6_greatest_X1_weight : GoodIn wsX6_greatest wsX1_weight := goodIn_sub (xc (xt1 (xl (xl (xl (xt16 (xt1 (xt1 (xt1 (xh))))))))) (xa (xa (xc (xt1 (xl (xl (xl (xt4 (xt4 (xt4 (xt1 (xt1 (xh)))))))))) (xc (xt1 (xl (xl (xl (xt4 (xt4 (xt4 (xt1 (xt1 (xt1 (xh))))))))))) (xc (xt1 (xl (xl (xl (xt16 (xt4 (xh))))))) (xn)))) (fun _ h => xt1 (xl (xr (h))))) (fun _ h => xt1 (xr (h))))) (by decide +kernel)
set_option maxRecDepth 20000 in
theorem gX6_greatest_X1_weight : GoodIn wsX6_greatest (wsV RX6 38 RX1 yX1_weight wsX1_weight) := goodIn_app (goodIn_sub (xc (xt1 (xl (xl (xl (xt16 (xh)))))) (xc (xt1 (xl (xl (xl (xt16 (xt1 (xh))))))) (xc (xt1 (xl (xl (xl (xt16 (xt1 (xt1 (xh)))))))) (xc (xt1 (xl (xl (xl (xt4 (xt4 (xt4 (xh)))))))) (xn))))) (by decide +kernel)) ggX6_greatest_X1_weight
theorem dX6_greatest_0 : decode cX6_greatest 0 = .ok (.aload_n 0, 1) := by decide +kernel
theorem dX6_greatest_1 : decode cX6_greatest 1 = .ok (.getfield 17, 3) := by decide +kernel
theorem dX6_greatest_4 : decode cX6_greatest 4 = .ok (.iconst 0, 1) := by decide +kernel
theorem dX6_greatest_5 : decode cX6_greatest 5 = .ok (.iconst 0, 1) := by decide +kernel
theorem dX6_greatest_6 : decode cX6_greatest 6 = .ok (.iastore, 1) := by decide +kernel
theorem dX6_greatest_7 : decode cX6_greatest 7 = .ok (.iconst 0, 1) := by decide +kernel
theorem dX6_greatest_8 : decode cX6_greatest 8 = .ok (.istore_n 1, 1) := by decide +kernel
theorem dX6_greatest_9 : decode cX6_greatest 9 = .ok (.iconst 0, 1) := by decide +kernel
theorem dX6_greatest_10 : decode cX6_greatest 10 = .ok (.istore_n 2, 1) := by decide +kernel
theorem dX6_greatest_11 : decode cX6_greatest 11 = .ok (.iload_n 2, 1) := by decide +kernel
theorem dX6_greatest_12 : decode cX6_greatest 12 = .ok (.aload_n 0, 1) := by decide +kernel
theorem dX6_greatest_13 : decode cX6_greatest 13 = .ok (.getfield 20, 3) := by decide +kernel
theorem dX6_greatest_16 : decode cX6_greatest 16 = .ok (.if_icmp .ge 111, 3) := by decide +kernel
theorem dX6_greatest_19 : decode cX6_greatest 19 = .ok (.aload_n 0, 1) := by decide +kernel
theorem dX6_greatest_20 : decode cX6_greatest 20 = .ok (.getfield 13, 3) := by decide +kernel
theorem dX6_greatest_23 : decode cX6_greatest 23 = .ok (.iload_n 2, 1) := by decide +kernel
theorem dX6_greatest_24 : decode cX6_greatest 24 = .ok (.iaload, 1) := by decide +kernel
theorem dX6_greatest_25 : decode cX6_greatest 25 = .ok (.istore_n 3, 1) := by decide +kernel
theorem dX6_greatest_26 : decode cX6_greatest 26 = .ok (.aload_n 0, 1) := by decide +kernel
theorem dX6_greatest_27 : decode cX6_greatest 27 = .ok (.getfield 17, 3) := by decide +kernel
theorem dX6_greatest_30 : decode cX6_greatest 30 = .ok (.iload_n 1, 1) := by decide +kernel
theorem dX6_greatest_31 : decode cX6_greatest 31 = .ok (.iconst 1, 1) := by decide +kernel
theorem dX6_greatest_32 : decode cX6_greatest 32 = .ok (.iadd, 1) := by decide +kernel
theorem dX6_greatest_33 : decode cX6_greatest 33 = .ok (.ldc 44, 2) := by decide +kernel
theorem dX6_greatest_35 : decode cX6_greatest 35 = .ok (.iastore, 1) := by decide +kernel
theorem dX6_greatest_36 : decode cX6_greatest 36 = .ok (.iload_n 1, 1) := by decide +kernel
theorem dX6_greatest_37 : decode cX6_greatest 37 = .ok (.istore 4, 2) := by decide +kernel
theorem dX6_greatest_39 : decode cX6_greatest 39 = .ok (.iload 4, 2) := by decide +kernel
theorem dX6_greatest_41 : decode cX6_greatest 41 = .ok (.ifCond .lt 64, 3) := by decide +kernel
theorem dX6_greatest_44 : decode cX6_greatest 44 = .ok (.aload_n 0, 1) := by decide +kernel
theorem dX6_greatest_45 : decode cX6_greatest 45 = .ok (.getfield 17, 3) := by decide +kernel
theorem dX6_greatest_48 : decode cX6_greatest 48 = .ok (.iload 4, 2) := by decide +kernel
theorem dX6_greatest_50 : decode cX6_greatest 50 = .ok (.iaload, 1) := by decide +kernel
theorem dX6_greatest_51 : decode cX6_greatest 51 = .ok (.aload_n 0, 1) := by decide +kernel
theorem dX6_greatest_52 : decode cX6_greatest 52 = .ok (.getfield 7, 3) := by decide +kernel
theorem dX6_greatest_55 : decode cX6_greatest 55 = .ok (.iload_n 3, 1) := by decide +kernel
theorem dX6_greatest_56 : decode cX6_greatest 56 = .ok (.invokevirtual 41, 3) := by decide +kernel
theorem dX6_greatest_59 : decode cX6_greatest 59 = .ok (.if_icmp .gt 40, 3) := by decide +kernel
theorem dX6_greatest_62 : decode cX6_greatest 62 = .ok (.aload_n 0, 1) := by decide +kernel
theorem dX6_greatest_63 : decode cX6_greatest 63 = .ok (.getfield 17, 3) := by decide +kernel
theorem dX6_greatest_66 : decode cX6_greatest 66 = .ok (.iload 4, 2) := by decide +kernel
theorem dX6_greatest_68 : decode cX6_greatest 68 = .ok (.iconst 1, 1) := by decide +kernel
theorem dX6_greatest_69 : decode cX6_greatest 69 = .ok (.iadd, 1) := by decide +kernel
theorem dX6_greatest_70 : decode cX6_greatest 70 = .ok (.aload_n 0, 1) := by decide +kernel
theorem dX6_greatest_71 : decode cX6_greatest 71 = .ok (.getfield 17, 3) := by decide +kernel
theorem dX6_greatest_74 : decode cX6_greatest 74 = .ok (.iload 4, 2) := by decide +kernel
theorem dX6_greatest_76 : decode cX6_greatest 76 = .ok (.iconst 1, 1) := by decide +kernel
theorem dX6_greatest_77 : decode cX6_greatest 77 = .ok (.iadd, 1) := by decide +kernel
theorem dX6_greatest_78 : decode cX6_greatest 78 = .ok (.iaload, 1) := by decide +kernel
theorem dX6_greatest_79 : decode cX6_greatest 79 = .ok (.aload_n 0, 1) := by decide +kernel
theorem dX6_greatest_80 : decode cX6_greatest 80 = .ok (.getfield 17, 3) := by decide +kernel
theorem dX6_greatest_83 : decode cX6_greatest 83 = .ok (.iload 4, 2) := by decide +kernel
theorem dX6_greatest_85 : decode cX6_greatest 85 = .ok (.iaload, 1) := by decide +kernel
theorem dX6_greatest_86 : decode cX6_greatest 86 = .ok (.aload_n 0, 1) := by decide +kernel
theorem dX6_greatest_87 : decode cX6_greatest 87 = .ok (.getfield 7, 3) := by decide +kernel
theorem dX6_greatest_90 : decode cX6_greatest 90 = .ok (.iload_n 3, 1) := by decide +kernel
theorem dX6_greatest_91 : decode cX6_greatest 91 = .ok (.invokevirtual 38, 3) := by decide +kernel
theorem dX6_greatest_94 : decode cX6_greatest 94 = .ok (.iadd, 1) := by decide +kernel
theorem dX6_greatest_95 : decode cX6_greatest 95 = .ok (.invokestatic 45, 3) := by decide +kernel
theorem dX6_greatest_98 : decode cX6_greatest 98 = .ok (.iastore, 1) := by decide +kernel
theorem dX6_greatest_99 : decode cX6_greatest 99 = .ok (.iinc 4 (-1), 3) := by decide +kernel
theorem dX6_greatest_102 : decode cX6_greatest 102 = .ok (.goto (-63), 3) := by decide +kernel
theorem dX6_greatest_105 : decode cX6_greatest 105 = .ok (.aload_n 0, 1) := by decide +kernel
theorem dX6_greatest_106 : decode cX6_greatest 106 = .ok (.getfield 17, 3) := by decide +kernel
theorem dX6_greatest_109 : decode cX6_greatest 109 = .ok (.iload_n 1, 1) := by decide +kernel
theorem dX6_greatest_110 : decode cX6_greatest 110 = .ok (.iconst 1, 1) := by decide +kernel
theorem dX6_greatest_111 : decode cX6_greatest 111 = .ok (.iadd, 1) := by decide +kernel
theorem dX6_greatest_112 : decode cX6_greatest 112 = .ok (.iaload, 1) := by decide +kernel
theorem dX6_greatest_113 : decode cX6_greatest 113 = .ok (.ldc 44, 2) := by decide +kernel
theorem dX6_greatest_115 : decode cX6_greatest 115 = .ok (.if_icmp .ge 6, 3) := by decide +kernel
theorem dX6_greatest_118 : decode cX6_greatest 118 = .ok (.iinc 1 1, 3) := by decide +kernel
theorem dX6_greatest_121 : decode cX6_greatest 121 = .ok (.iinc 2 1, 3) := by decide +kernel
theorem dX6_greatest_124 : decode cX6_greatest 124 = .ok (.goto (-113), 3) := by decide +kernel
theorem dX6_greatest_127 : decode cX6_greatest 127 = .ok (.iload_n 1, 1) := by decide +kernel
theorem dX6_greatest_128 : decode cX6_greatest 128 = .ok (.ireturn, 1) := by decide +kernel
