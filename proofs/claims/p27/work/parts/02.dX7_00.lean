theorem dX7_init_0 : decode cX7_init 0 = .ok (.aload_n 0, 1) := by decide +kernel
theorem dX7_init_1 : decode cX7_init 1 = .ok (.invokespecial 3, 3) := by decide +kernel
theorem dX7_init_4 : decode cX7_init 4 = .ok (.aload_n 0, 1) := by decide +kernel
theorem dX7_init_5 : decode cX7_init 5 = .ok (.sipush 400, 3) := by decide +kernel
theorem dX7_init_8 : decode cX7_init 8 = .ok (.newarray .byte, 2) := by decide +kernel
theorem dX7_init_10 : decode cX7_init 10 = .ok (.putfield 11, 3) := by decide +kernel
theorem dX7_init_13 : decode cX7_init 13 = .ok (.aload_n 0, 1) := by decide +kernel
theorem dX7_init_14 : decode cX7_init 14 = .ok (.iconst 0, 1) := by decide +kernel
theorem dX7_init_15 : decode cX7_init 15 = .ok (.putfield 15, 3) := by decide +kernel
theorem dX7_init_18 : decode cX7_init 18 = .ok (.return_, 1) := by decide +kernel
set_option maxRecDepth 20000 in
theorem ggX7_append_X7_put : GoodIn wsX7_append wsX7_put := goodIn_sub (xc (xt1 (xl (xt4 (xt1 (xh))))) (xa (xc (xt1 (xl (xt4 (xt1 (xt1 (xh)))))) (xc (xt1 (xl (xh))) (xn))) (fun _ h => xt1 (xr (h))))) (by decide +kernel)
set_option maxRecDepth 20000 in
theorem gX7_append_X7_put : GoodIn wsX7_append (wsV RX7 19 RX7 yX7_put wsX7_put) := goodIn_app (goodIn_sub (xc (xt1 (xl (xt1 (xh)))) (xc (xt1 (xl (xt1 (xt1 (xh))))) (xc (xt1 (xl (xt1 (xt1 (xt1 (xh)))))) (xc (xt1 (xl (xt4 (xh)))) (xn))))) (by decide +kernel)) ggX7_append_X7_put
theorem dX7_append_0 : decode cX7_append 0 = .ok (.aload_n 0, 1) := by decide +kernel
theorem dX7_append_1 : decode cX7_append 1 = .ok (.getfield 15, 3) := by decide +kernel
theorem dX7_append_4 : decode cX7_append 4 = .ok (.bipush 20, 2) := by decide +kernel
theorem dX7_append_6 : decode cX7_append 6 = .ok (.iadd, 1) := by decide +kernel
theorem dX7_append_7 : decode cX7_append 7 = .ok (.sipush 400, 3) := by decide +kernel
theorem dX7_append_10 : decode cX7_append 10 = .ok (.if_icmp .le 5, 3) := by decide +kernel
theorem dX7_append_13 : decode cX7_append 13 = .ok (.iconst (-1), 1) := by decide +kernel
theorem dX7_append_14 : decode cX7_append 14 = .ok (.ireturn, 1) := by decide +kernel
theorem dX7_append_15 : decode cX7_append 15 = .ok (.aload_n 0, 1) := by decide +kernel
theorem dX7_append_16 : decode cX7_append 16 = .ok (.iload_n 1, 1) := by decide +kernel
theorem dX7_append_17 : decode cX7_append 17 = .ok (.invokevirtual 19, 3) := by decide +kernel
theorem dX7_append_20 : decode cX7_append 20 = .ok (.aload_n 0, 1) := by decide +kernel
theorem dX7_append_21 : decode cX7_append 21 = .ok (.iload_n 2, 1) := by decide +kernel
theorem dX7_append_22 : decode cX7_append 22 = .ok (.invokevirtual 19, 3) := by decide +kernel
theorem dX7_append_25 : decode cX7_append 25 = .ok (.aload_n 0, 1) := by decide +kernel
theorem dX7_append_26 : decode cX7_append 26 = .ok (.iload_n 3, 1) := by decide +kernel
theorem dX7_append_27 : decode cX7_append 27 = .ok (.invokevirtual 19, 3) := by decide +kernel
theorem dX7_append_30 : decode cX7_append 30 = .ok (.aload_n 0, 1) := by decide +kernel
theorem dX7_append_31 : decode cX7_append 31 = .ok (.iload 4, 2) := by decide +kernel
theorem dX7_append_33 : decode cX7_append 33 = .ok (.invokevirtual 19, 3) := by decide +kernel
theorem dX7_append_36 : decode cX7_append 36 = .ok (.aload_n 0, 1) := by decide +kernel
theorem dX7_append_37 : decode cX7_append 37 = .ok (.iload 5, 2) := by decide +kernel
theorem dX7_append_39 : decode cX7_append 39 = .ok (.invokevirtual 19, 3) := by decide +kernel
theorem dX7_append_42 : decode cX7_append 42 = .ok (.aload_n 0, 1) := by decide +kernel
theorem dX7_append_43 : decode cX7_append 43 = .ok (.getfield 15, 3) := by decide +kernel
theorem dX7_append_46 : decode cX7_append 46 = .ok (.ireturn, 1) := by decide +kernel
theorem dX7_put_0 : decode cX7_put 0 = .ok (.bipush 24, 2) := by decide +kernel
theorem dX7_put_2 : decode cX7_put 2 = .ok (.istore_n 2, 1) := by decide +kernel
theorem dX7_put_3 : decode cX7_put 3 = .ok (.iload_n 2, 1) := by decide +kernel
theorem dX7_put_4 : decode cX7_put 4 = .ok (.ifCond .lt 32, 3) := by decide +kernel
theorem dX7_put_7 : decode cX7_put 7 = .ok (.aload_n 0, 1) := by decide +kernel
theorem dX7_put_8 : decode cX7_put 8 = .ok (.getfield 11, 3) := by decide +kernel
theorem dX7_put_11 : decode cX7_put 11 = .ok (.aload_n 0, 1) := by decide +kernel
theorem dX7_put_12 : decode cX7_put 12 = .ok (.getfield 15, 3) := by decide +kernel
theorem dX7_put_15 : decode cX7_put 15 = .ok (.iload_n 1, 1) := by decide +kernel
theorem dX7_put_16 : decode cX7_put 16 = .ok (.iload_n 2, 1) := by decide +kernel
theorem dX7_put_17 : decode cX7_put 17 = .ok (.iushr, 1) := by decide +kernel
theorem dX7_put_18 : decode cX7_put 18 = .ok (.i2b, 1) := by decide +kernel
theorem dX7_put_19 : decode cX7_put 19 = .ok (.bastore, 1) := by decide +kernel
theorem dX7_put_20 : decode cX7_put 20 = .ok (.aload_n 0, 1) := by decide +kernel
theorem dX7_put_21 : decode cX7_put 21 = .ok (.dup, 1) := by decide +kernel
theorem dX7_put_22 : decode cX7_put 22 = .ok (.getfield 15, 3) := by decide +kernel
theorem dX7_put_25 : decode cX7_put 25 = .ok (.iconst 1, 1) := by decide +kernel
theorem dX7_put_26 : decode cX7_put 26 = .ok (.iadd, 1) := by decide +kernel
theorem dX7_put_27 : decode cX7_put 27 = .ok (.putfield 15, 3) := by decide +kernel
theorem dX7_put_30 : decode cX7_put 30 = .ok (.iinc 2 (-8), 3) := by decide +kernel
theorem dX7_put_33 : decode cX7_put 33 = .ok (.goto (-30), 3) := by decide +kernel
theorem dX7_put_36 : decode cX7_put 36 = .ok (.return_, 1) := by decide +kernel
theorem dX7_keepFirst_0 : decode cX7_keepFirst 0 = .ok (.iload_n 1, 1) := by decide +kernel
theorem dX7_keepFirst_1 : decode cX7_keepFirst 1 = .ok (.ifCond .lt 11, 3) := by decide +kernel
theorem dX7_keepFirst_4 : decode cX7_keepFirst 4 = .ok (.iload_n 1, 1) := by decide +kernel
theorem dX7_keepFirst_5 : decode cX7_keepFirst 5 = .ok (.aload_n 0, 1) := by decide +kernel
theorem dX7_keepFirst_6 : decode cX7_keepFirst 6 = .ok (.getfield 15, 3) := by decide +kernel
theorem dX7_keepFirst_9 : decode cX7_keepFirst 9 = .ok (.if_icmp .le 5, 3) := by decide +kernel
theorem dX7_keepFirst_12 : decode cX7_keepFirst 12 = .ok (.iconst 0, 1) := by decide +kernel
theorem dX7_keepFirst_13 : decode cX7_keepFirst 13 = .ok (.ireturn, 1) := by decide +kernel
theorem dX7_keepFirst_14 : decode cX7_keepFirst 14 = .ok (.aload_n 0, 1) := by decide +kernel
theorem dX7_keepFirst_15 : decode cX7_keepFirst 15 = .ok (.iload_n 1, 1) := by decide +kernel
theorem dX7_keepFirst_16 : decode cX7_keepFirst 16 = .ok (.putfield 15, 3) := by decide +kernel
theorem dX7_keepFirst_19 : decode cX7_keepFirst 19 = .ok (.iconst 1, 1) := by decide +kernel
theorem dX7_keepFirst_20 : decode cX7_keepFirst 20 = .ok (.ireturn, 1) := by decide +kernel
theorem dX7_clear_0 : decode cX7_clear 0 = .ok (.aload_n 0, 1) := by decide +kernel
theorem dX7_clear_1 : decode cX7_clear 1 = .ok (.iconst 0, 1) := by decide +kernel
theorem dX7_clear_2 : decode cX7_clear 2 = .ok (.putfield 15, 3) := by decide +kernel
theorem dX7_clear_5 : decode cX7_clear 5 = .ok (.return_, 1) := by decide +kernel
theorem dX7_endsAt_0 : decode cX7_endsAt 0 = .ok (.iload_n 1, 1) := by decide +kernel
theorem dX7_endsAt_1 : decode cX7_endsAt 1 = .ok (.aload_n 0, 1) := by decide +kernel
theorem dX7_endsAt_2 : decode cX7_endsAt 2 = .ok (.getfield 15, 3) := by decide +kernel
theorem dX7_endsAt_5 : decode cX7_endsAt 5 = .ok (.if_icmp .lt 7, 3) := by decide +kernel
theorem dX7_endsAt_8 : decode cX7_endsAt 8 = .ok (.iconst 1, 1) := by decide +kernel
theorem dX7_endsAt_9 : decode cX7_endsAt 9 = .ok (.goto 4, 3) := by decide +kernel
theorem dX7_endsAt_12 : decode cX7_endsAt 12 = .ok (.iconst 0, 1) := by decide +kernel
theorem dX7_endsAt_13 : decode cX7_endsAt 13 = .ok (.ireturn, 1) := by decide +kernel
theorem dX7_past_0 : decode cX7_past 0 = .ok (.iload_n 1, 1) := by decide +kernel
theorem dX7_past_1 : decode cX7_past 1 = .ok (.istore 4, 2) := by decide +kernel
theorem dX7_past_3 : decode cX7_past 3 = .ok (.iload 4, 2) := by decide +kernel
theorem dX7_past_5 : decode cX7_past 5 = .ok (.aload_n 0, 1) := by decide +kernel
theorem dX7_past_6 : decode cX7_past 6 = .ok (.getfield 15, 3) := by decide +kernel
theorem dX7_past_9 : decode cX7_past 9 = .ok (.if_icmp .ge 31, 3) := by decide +kernel
theorem dX7_past_12 : decode cX7_past 12 = .ok (.aload_n 0, 1) := by decide +kernel
theorem dX7_past_13 : decode cX7_past 13 = .ok (.getfield 11, 3) := by decide +kernel
theorem dX7_past_16 : decode cX7_past 16 = .ok (.iload 4, 2) := by decide +kernel
theorem dX7_past_18 : decode cX7_past 18 = .ok (.baload, 1) := by decide +kernel
theorem dX7_past_19 : decode cX7_past 19 = .ok (.iload_n 2, 1) := by decide +kernel
theorem dX7_past_20 : decode cX7_past 20 = .ok (.if_icmp .lt 20, 3) := by decide +kernel
theorem dX7_past_23 : decode cX7_past 23 = .ok (.aload_n 0, 1) := by decide +kernel
theorem dX7_past_24 : decode cX7_past 24 = .ok (.getfield 11, 3) := by decide +kernel
theorem dX7_past_27 : decode cX7_past 27 = .ok (.iload 4, 2) := by decide +kernel
theorem dX7_past_29 : decode cX7_past 29 = .ok (.baload, 1) := by decide +kernel
theorem dX7_past_30 : decode cX7_past 30 = .ok (.iload_n 3, 1) := by decide +kernel
theorem dX7_past_31 : decode cX7_past 31 = .ok (.if_icmp .gt 9, 3) := by decide +kernel
theorem dX7_past_34 : decode cX7_past 34 = .ok (.iinc 4 1, 3) := by decide +kernel
theorem dX7_past_37 : decode cX7_past 37 = .ok (.goto (-34), 3) := by decide +kernel
theorem dX7_past_40 : decode cX7_past 40 = .ok (.iload 4, 2) := by decide +kernel
theorem dX7_past_42 : decode cX7_past 42 = .ok (.ireturn, 1) := by decide +kernel
set_option maxRecDepth 20000 in
theorem ggX7_reads_J0_length_8abf5 : GoodIn wsX7_reads wsJ0_length_8abf5 := goodIn_sub (xc (xt1 (xl (xl (xt4 (xt1 (xh)))))) (xc (xt1 (xl (xl (xt4 (xt1 (xt1 (xh))))))) (xc (xt1 (xl (xl (xt4 (xt1 (xt1 (xt1 (xh)))))))) (xc (xt1 (xl (xl (xt4 (xt4 (xh)))))) (xc (xt1 (xl (xl (xt4 (xt4 (xt1 (xh))))))) (xc (xt1 (xl (xl (xt4 (xh))))) (xc (xt1 (xl (xl (xt4 (xt4 (xt1 (xt1 (xh)))))))) (xc (xt1 (xl (xl (xt4 (xt4 (xt1 (xt1 (xt1 (xh))))))))) (xc (xt1 (xl (xl (xt4 (xt4 (xt4 (xh))))))) (xn)))))))))) (by decide +kernel)
set_option maxRecDepth 20000 in
theorem gX7_reads_J0_length_8abf5 : GoodIn wsX7_reads (wsV RX7 23 RJ0 yJ0_length_8abf5 wsJ0_length_8abf5) := goodIn_app (goodIn_sub (xc (xt1 (xl (xl (xt1 (xh))))) (xc (xt1 (xl (xl (xt1 (xt1 (xh)))))) (xc (xt1 (xl (xl (xt1 (xt1 (xt1 (xh))))))) (xc (xt1 (xl (xl (xt4 (xh))))) (xn))))) (by decide +kernel)) ggX7_reads_J0_length_8abf5
set_option maxRecDepth 20000 in
theorem ggX7_reads_J0_charAt_5068e : GoodIn wsX7_reads wsJ0_charAt_5068e := goodIn_sub (xc (xt1 (xl (xl (xt16 (xh))))) (xa (xc (xt1 (xl (xl (xt4 (xt1 (xt1 (xh))))))) (xc (xt1 (xl (xl (xt16 (xt1 (xh)))))) (xc (xt1 (xl (xl (xt16 (xt1 (xt1 (xh))))))) (xc (xt1 (xl (xl (xt16 (xt1 (xt1 (xt1 (xh)))))))) (xc (xt1 (xl (xl (xt4 (xh))))) (xc (xt1 (xl (xl (xt16 (xt4 (xh)))))) (xc (xt1 (xl (xl (xt4 (xt4 (xt1 (xt1 (xt1 (xh))))))))) (xc (xt1 (xl (xl (xt4 (xt4 (xt4 (xh))))))) (xc (xt1 (xl (xl (xt16 (xt4 (xt1 (xh))))))) (xc (xt1 (xl (xl (xt16 (xt4 (xt1 (xt1 (xh)))))))) (xc (xt1 (xl (xl (xt16 (xt4 (xt1 (xt1 (xt1 (xh))))))))) (xc (xt1 (xl (xr (xl (xh))))) (xc (xt1 (xl (xr (xl (xt1 (xh)))))) (xc (xt1 (xl (xr (xl (xt1 (xt1 (xh))))))) (xc (xt1 (xl (xr (xl (xt1 (xt1 (xt1 (xh)))))))) (xc (xt1 (xl (xr (xl (xt4 (xh)))))) (xc (xt1 (xl (xr (xl (xt4 (xt1 (xh))))))) (xc (xt1 (xl (xr (xl (xt4 (xt1 (xt1 (xh)))))))) (xc (xt1 (xl (xr (xl (xt4 (xt1 (xt1 (xt1 (xh))))))))) (xc (xt1 (xl (xr (xl (xt4 (xt4 (xh))))))) (xc (xt1 (xl (xr (xl (xt4 (xt4 (xt1 (xh)))))))) (xc (xt1 (xl (xr (xl (xt4 (xt4 (xt1 (xt1 (xh))))))))) (xc (xt1 (xl (xr (xl (xt4 (xt4 (xt1 (xt1 (xt1 (xh)))))))))) (xc (xt1 (xl (xr (xl (xt4 (xt4 (xt4 (xh)))))))) (xn))))))))))))))))))))))))) (xc (xt1 (xl (xr (xl (xt4 (xt4 (xt4 (xt1 (xh))))))))) (xc (xt1 (xl (xr (xl (xt4 (xt4 (xt4 (xt1 (xt1 (xh)))))))))) (xc (xt1 (xl (xr (xl (xt4 (xt4 (xt4 (xt1 (xt1 (xt1 (xh))))))))))) (xc (xt1 (xl (xr (xl (xt16 (xh)))))) (xc (xt1 (xl (xr (xl (xt16 (xt1 (xh))))))) (xc (xt1 (xl (xr (xl (xt16 (xt1 (xt1 (xh)))))))) (xc (xt1 (xl (xr (xl (xt16 (xt1 (xt1 (xt1 (xh))))))))) (xc (xt1 (xl (xr (xl (xt16 (xt4 (xh))))))) (xc (xt1 (xl (xr (xl (xt16 (xt4 (xt1 (xh)))))))) (xc (xt1 (xl (xr (xl (xt16 (xt4 (xt1 (xt1 (xh))))))))) (xc (xt1 (xl (xr (xl (xt16 (xt4 (xt1 (xt1 (xt1 (xh)))))))))) (xc (xt1 (xl (xr (xr (xh))))) (xc (xt1 (xl (xr (xr (xt1 (xh)))))) (xn)))))))))))))))) (by decide +kernel)
set_option maxRecDepth 20000 in
theorem gX7_reads_J0_charAt_5068e : GoodIn wsX7_reads (wsV RX7 29 RJ0 yJ0_charAt_5068e wsJ0_charAt_5068e) := goodIn_app (goodIn_sub (xc (xt1 (xl (xl (xt4 (xt4 (xt4 (xt1 (xh)))))))) (xc (xt1 (xl (xl (xt4 (xt4 (xt4 (xt1 (xt1 (xh))))))))) (xc (xt1 (xl (xl (xt4 (xt4 (xt4 (xt1 (xt1 (xt1 (xh)))))))))) (xc (xt1 (xl (xl (xt4 (xh))))) (xn))))) (by decide +kernel)) ggX7_reads_J0_charAt_5068e
theorem dX7_reads_0 : decode cX7_reads 0 = .ok (.iload_n 2, 1) := by decide +kernel
theorem dX7_reads_1 : decode cX7_reads 1 = .ok (.iload_n 1, 1) := by decide +kernel
theorem dX7_reads_2 : decode cX7_reads 2 = .ok (.isub, 1) := by decide +kernel
theorem dX7_reads_3 : decode cX7_reads 3 = .ok (.aload_n 3, 1) := by decide +kernel
theorem dX7_reads_4 : decode cX7_reads 4 = .ok (.invokevirtual 23, 3) := by decide +kernel
theorem dX7_reads_7 : decode cX7_reads 7 = .ok (.if_icmp .eq 5, 3) := by decide +kernel
theorem dX7_reads_10 : decode cX7_reads 10 = .ok (.iconst 0, 1) := by decide +kernel
theorem dX7_reads_11 : decode cX7_reads 11 = .ok (.ireturn, 1) := by decide +kernel
theorem dX7_reads_12 : decode cX7_reads 12 = .ok (.iload_n 1, 1) := by decide +kernel
theorem dX7_reads_13 : decode cX7_reads 13 = .ok (.istore 4, 2) := by decide +kernel
theorem dX7_reads_15 : decode cX7_reads 15 = .ok (.iload 4, 2) := by decide +kernel
theorem dX7_reads_17 : decode cX7_reads 17 = .ok (.iload_n 2, 1) := by decide +kernel
theorem dX7_reads_18 : decode cX7_reads 18 = .ok (.if_icmp .ge 29, 3) := by decide +kernel
theorem dX7_reads_21 : decode cX7_reads 21 = .ok (.aload_n 0, 1) := by decide +kernel
theorem dX7_reads_22 : decode cX7_reads 22 = .ok (.getfield 11, 3) := by decide +kernel
theorem dX7_reads_25 : decode cX7_reads 25 = .ok (.iload 4, 2) := by decide +kernel
theorem dX7_reads_27 : decode cX7_reads 27 = .ok (.baload, 1) := by decide +kernel
theorem dX7_reads_28 : decode cX7_reads 28 = .ok (.aload_n 3, 1) := by decide +kernel
theorem dX7_reads_29 : decode cX7_reads 29 = .ok (.iload 4, 2) := by decide +kernel
theorem dX7_reads_31 : decode cX7_reads 31 = .ok (.iload_n 1, 1) := by decide +kernel
theorem dX7_reads_32 : decode cX7_reads 32 = .ok (.isub, 1) := by decide +kernel
theorem dX7_reads_33 : decode cX7_reads 33 = .ok (.invokevirtual 29, 3) := by decide +kernel
theorem dX7_reads_36 : decode cX7_reads 36 = .ok (.if_icmp .eq 5, 3) := by decide +kernel
theorem dX7_reads_39 : decode cX7_reads 39 = .ok (.iconst 0, 1) := by decide +kernel
theorem dX7_reads_40 : decode cX7_reads 40 = .ok (.ireturn, 1) := by decide +kernel
theorem dX7_reads_41 : decode cX7_reads 41 = .ok (.iinc 4 1, 3) := by decide +kernel
theorem dX7_reads_44 : decode cX7_reads 44 = .ok (.goto (-29), 3) := by decide +kernel
theorem dX7_reads_47 : decode cX7_reads 47 = .ok (.iconst 1, 1) := by decide +kernel
theorem dX7_reads_48 : decode cX7_reads 48 = .ok (.ireturn, 1) := by decide +kernel
theorem dX7_digitsFrom_0 : decode cX7_digitsFrom 0 = .ok (.iconst 0, 1) := by decide +kernel
theorem dX7_digitsFrom_1 : decode cX7_digitsFrom 1 = .ok (.istore_n 3, 1) := by decide +kernel
theorem dX7_digitsFrom_2 : decode cX7_digitsFrom 2 = .ok (.iload_n 1, 1) := by decide +kernel
theorem dX7_digitsFrom_3 : decode cX7_digitsFrom 3 = .ok (.istore 4, 2) := by decide +kernel
theorem dX7_digitsFrom_5 : decode cX7_digitsFrom 5 = .ok (.iload 4, 2) := by decide +kernel
theorem dX7_digitsFrom_7 : decode cX7_digitsFrom 7 = .ok (.iload_n 2, 1) := by decide +kernel
theorem dX7_digitsFrom_8 : decode cX7_digitsFrom 8 = .ok (.if_icmp .ge 25, 3) := by decide +kernel
theorem dX7_digitsFrom_11 : decode cX7_digitsFrom 11 = .ok (.iload_n 3, 1) := by decide +kernel
theorem dX7_digitsFrom_12 : decode cX7_digitsFrom 12 = .ok (.bipush 10, 2) := by decide +kernel
theorem dX7_digitsFrom_14 : decode cX7_digitsFrom 14 = .ok (.imul, 1) := by decide +kernel
theorem dX7_digitsFrom_15 : decode cX7_digitsFrom 15 = .ok (.aload_n 0, 1) := by decide +kernel
theorem dX7_digitsFrom_16 : decode cX7_digitsFrom 16 = .ok (.getfield 11, 3) := by decide +kernel
theorem dX7_digitsFrom_19 : decode cX7_digitsFrom 19 = .ok (.iload 4, 2) := by decide +kernel
theorem dX7_digitsFrom_21 : decode cX7_digitsFrom 21 = .ok (.baload, 1) := by decide +kernel
theorem dX7_digitsFrom_22 : decode cX7_digitsFrom 22 = .ok (.bipush 48, 2) := by decide +kernel
theorem dX7_digitsFrom_24 : decode cX7_digitsFrom 24 = .ok (.isub, 1) := by decide +kernel
theorem dX7_digitsFrom_25 : decode cX7_digitsFrom 25 = .ok (.iadd, 1) := by decide +kernel
theorem dX7_digitsFrom_26 : decode cX7_digitsFrom 26 = .ok (.istore_n 3, 1) := by decide +kernel
theorem dX7_digitsFrom_27 : decode cX7_digitsFrom 27 = .ok (.iinc 4 1, 3) := by decide +kernel
theorem dX7_digitsFrom_30 : decode cX7_digitsFrom 30 = .ok (.goto (-25), 3) := by decide +kernel
theorem dX7_digitsFrom_33 : decode cX7_digitsFrom 33 = .ok (.iload_n 3, 1) := by decide +kernel
theorem dX7_digitsFrom_34 : decode cX7_digitsFrom 34 = .ok (.ireturn, 1) := by decide +kernel
