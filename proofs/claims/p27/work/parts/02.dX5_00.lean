theorem dX5_init_0 : decode cX5_init 0 = .ok (.aload_n 0, 1) := by decide +kernel
theorem dX5_init_1 : decode cX5_init 1 = .ok (.invokespecial 3, 3) := by decide +kernel
theorem dX5_init_4 : decode cX5_init 4 = .ok (.aload_n 0, 1) := by decide +kernel
theorem dX5_init_5 : decode cX5_init 5 = .ok (.bipush 60, 2) := by decide +kernel
theorem dX5_init_7 : decode cX5_init 7 = .ok (.newarray .int, 2) := by decide +kernel
theorem dX5_init_9 : decode cX5_init 9 = .ok (.putfield 11, 3) := by decide +kernel
theorem dX5_init_12 : decode cX5_init 12 = .ok (.aload_n 0, 1) := by decide +kernel
theorem dX5_init_13 : decode cX5_init 13 = .ok (.bipush 60, 2) := by decide +kernel
theorem dX5_init_15 : decode cX5_init 15 = .ok (.newarray .int, 2) := by decide +kernel
theorem dX5_init_17 : decode cX5_init 17 = .ok (.putfield 15, 3) := by decide +kernel
theorem dX5_init_20 : decode cX5_init 20 = .ok (.aload_n 0, 1) := by decide +kernel
theorem dX5_init_21 : decode cX5_init 21 = .ok (.bipush 60, 2) := by decide +kernel
theorem dX5_init_23 : decode cX5_init 23 = .ok (.newarray .int, 2) := by decide +kernel
theorem dX5_init_25 : decode cX5_init 25 = .ok (.putfield 18, 3) := by decide +kernel
theorem dX5_init_28 : decode cX5_init 28 = .ok (.aload_n 0, 1) := by decide +kernel
theorem dX5_init_29 : decode cX5_init 29 = .ok (.bipush 60, 2) := by decide +kernel
theorem dX5_init_31 : decode cX5_init 31 = .ok (.newarray .int, 2) := by decide +kernel
theorem dX5_init_33 : decode cX5_init 33 = .ok (.putfield 21, 3) := by decide +kernel
theorem dX5_init_36 : decode cX5_init 36 = .ok (.aload_n 0, 1) := by decide +kernel
theorem dX5_init_37 : decode cX5_init 37 = .ok (.iconst 0, 1) := by decide +kernel
theorem dX5_init_38 : decode cX5_init 38 = .ok (.putfield 24, 3) := by decide +kernel
theorem dX5_init_41 : decode cX5_init 41 = .ok (.return_, 1) := by decide +kernel
theorem dX5_add_0 : decode cX5_add 0 = .ok (.aload_n 0, 1) := by decide +kernel
theorem dX5_add_1 : decode cX5_add 1 = .ok (.getfield 11, 3) := by decide +kernel
theorem dX5_add_4 : decode cX5_add 4 = .ok (.aload_n 0, 1) := by decide +kernel
theorem dX5_add_5 : decode cX5_add 5 = .ok (.getfield 24, 3) := by decide +kernel
theorem dX5_add_8 : decode cX5_add 8 = .ok (.aload_n 0, 1) := by decide +kernel
theorem dX5_add_9 : decode cX5_add 9 = .ok (.getfield 24, 3) := by decide +kernel
theorem dX5_add_12 : decode cX5_add 12 = .ok (.iastore, 1) := by decide +kernel
theorem dX5_add_13 : decode cX5_add 13 = .ok (.aload_n 0, 1) := by decide +kernel
theorem dX5_add_14 : decode cX5_add 14 = .ok (.getfield 15, 3) := by decide +kernel
theorem dX5_add_17 : decode cX5_add 17 = .ok (.aload_n 0, 1) := by decide +kernel
theorem dX5_add_18 : decode cX5_add 18 = .ok (.getfield 24, 3) := by decide +kernel
theorem dX5_add_21 : decode cX5_add 21 = .ok (.iconst 1, 1) := by decide +kernel
theorem dX5_add_22 : decode cX5_add 22 = .ok (.iastore, 1) := by decide +kernel
theorem dX5_add_23 : decode cX5_add 23 = .ok (.aload_n 0, 1) := by decide +kernel
theorem dX5_add_24 : decode cX5_add 24 = .ok (.getfield 18, 3) := by decide +kernel
theorem dX5_add_27 : decode cX5_add 27 = .ok (.aload_n 0, 1) := by decide +kernel
theorem dX5_add_28 : decode cX5_add 28 = .ok (.getfield 24, 3) := by decide +kernel
theorem dX5_add_31 : decode cX5_add 31 = .ok (.iload_n 1, 1) := by decide +kernel
theorem dX5_add_32 : decode cX5_add 32 = .ok (.iastore, 1) := by decide +kernel
theorem dX5_add_33 : decode cX5_add 33 = .ok (.aload_n 0, 1) := by decide +kernel
theorem dX5_add_34 : decode cX5_add 34 = .ok (.getfield 21, 3) := by decide +kernel
theorem dX5_add_37 : decode cX5_add 37 = .ok (.aload_n 0, 1) := by decide +kernel
theorem dX5_add_38 : decode cX5_add 38 = .ok (.getfield 24, 3) := by decide +kernel
theorem dX5_add_41 : decode cX5_add 41 = .ok (.iload_n 2, 1) := by decide +kernel
theorem dX5_add_42 : decode cX5_add 42 = .ok (.iastore, 1) := by decide +kernel
theorem dX5_add_43 : decode cX5_add 43 = .ok (.aload_n 0, 1) := by decide +kernel
theorem dX5_add_44 : decode cX5_add 44 = .ok (.dup, 1) := by decide +kernel
theorem dX5_add_45 : decode cX5_add 45 = .ok (.getfield 24, 3) := by decide +kernel
theorem dX5_add_48 : decode cX5_add 48 = .ok (.iconst 1, 1) := by decide +kernel
theorem dX5_add_49 : decode cX5_add 49 = .ok (.iadd, 1) := by decide +kernel
theorem dX5_add_50 : decode cX5_add 50 = .ok (.putfield 24, 3) := by decide +kernel
theorem dX5_add_53 : decode cX5_add 53 = .ok (.aload_n 0, 1) := by decide +kernel
theorem dX5_add_54 : decode cX5_add 54 = .ok (.getfield 24, 3) := by decide +kernel
theorem dX5_add_57 : decode cX5_add 57 = .ok (.iconst 1, 1) := by decide +kernel
theorem dX5_add_58 : decode cX5_add 58 = .ok (.isub, 1) := by decide +kernel
theorem dX5_add_59 : decode cX5_add 59 = .ok (.ireturn, 1) := by decide +kernel
set_option maxRecDepth 20000 in
theorem ggX5_unite_X5_fit : GoodIn wsX5_unite wsX5_fit := goodIn_sub (xc (xt1 (xl (xt4 (xt4 (xt4 (xt1 (xt1 (xt1 (xh))))))))) (xa (xc (xt1 (xl (xt4 (xt4 (xt1 (xt1 (xh))))))) (xc (xt1 (xl (xt16 (xh)))) (xn))) (fun _ h => xt1 (xr (h))))) (by decide +kernel)
set_option maxRecDepth 20000 in
theorem gX5_unite_X5_fit : GoodIn wsX5_unite (wsV RX5 37 RX5 yX5_fit wsX5_fit) := goodIn_app (goodIn_sub (xc (xt1 (xl (xt4 (xt4 (xt1 (xt1 (xt1 (xh)))))))) (xc (xt1 (xl (xt4 (xt4 (xt4 (xh)))))) (xc (xt1 (xl (xt4 (xt4 (xt4 (xt1 (xh))))))) (xc (xt1 (xl (xt4 (xt4 (xt4 (xt1 (xt1 (xh)))))))) (xn))))) (by decide +kernel)) ggX5_unite_X5_fit
theorem dX5_unite_0 : decode cX5_unite 0 = .ok (.aload_n 0, 1) := by decide +kernel
theorem dX5_unite_1 : decode cX5_unite 1 = .ok (.getfield 11, 3) := by decide +kernel
theorem dX5_unite_4 : decode cX5_unite 4 = .ok (.iload_n 1, 1) := by decide +kernel
theorem dX5_unite_5 : decode cX5_unite 5 = .ok (.iaload, 1) := by decide +kernel
theorem dX5_unite_6 : decode cX5_unite 6 = .ok (.aload_n 0, 1) := by decide +kernel
theorem dX5_unite_7 : decode cX5_unite 7 = .ok (.getfield 11, 3) := by decide +kernel
theorem dX5_unite_10 : decode cX5_unite 10 = .ok (.iload_n 2, 1) := by decide +kernel
theorem dX5_unite_11 : decode cX5_unite 11 = .ok (.iaload, 1) := by decide +kernel
theorem dX5_unite_12 : decode cX5_unite 12 = .ok (.invokestatic 28, 3) := by decide +kernel
theorem dX5_unite_15 : decode cX5_unite 15 = .ok (.istore_n 3, 1) := by decide +kernel
theorem dX5_unite_16 : decode cX5_unite 16 = .ok (.aload_n 0, 1) := by decide +kernel
theorem dX5_unite_17 : decode cX5_unite 17 = .ok (.getfield 11, 3) := by decide +kernel
theorem dX5_unite_20 : decode cX5_unite 20 = .ok (.iload_n 1, 1) := by decide +kernel
theorem dX5_unite_21 : decode cX5_unite 21 = .ok (.iaload, 1) := by decide +kernel
theorem dX5_unite_22 : decode cX5_unite 22 = .ok (.aload_n 0, 1) := by decide +kernel
theorem dX5_unite_23 : decode cX5_unite 23 = .ok (.getfield 11, 3) := by decide +kernel
theorem dX5_unite_26 : decode cX5_unite 26 = .ok (.iload_n 2, 1) := by decide +kernel
theorem dX5_unite_27 : decode cX5_unite 27 = .ok (.iaload, 1) := by decide +kernel
theorem dX5_unite_28 : decode cX5_unite 28 = .ok (.invokestatic 34, 3) := by decide +kernel
theorem dX5_unite_31 : decode cX5_unite 31 = .ok (.istore 4, 2) := by decide +kernel
theorem dX5_unite_33 : decode cX5_unite 33 = .ok (.iload_n 3, 1) := by decide +kernel
theorem dX5_unite_34 : decode cX5_unite 34 = .ok (.iload 4, 2) := by decide +kernel
theorem dX5_unite_36 : decode cX5_unite 36 = .ok (.if_icmp .eq 13, 3) := by decide +kernel
theorem dX5_unite_39 : decode cX5_unite 39 = .ok (.aload_n 0, 1) := by decide +kernel
theorem dX5_unite_40 : decode cX5_unite 40 = .ok (.iload_n 3, 1) := by decide +kernel
theorem dX5_unite_41 : decode cX5_unite 41 = .ok (.iload 4, 2) := by decide +kernel
theorem dX5_unite_43 : decode cX5_unite 43 = .ok (.invokevirtual 37, 3) := by decide +kernel
theorem dX5_unite_46 : decode cX5_unite 46 = .ok (.ifCond .ne 5, 3) := by decide +kernel
theorem dX5_unite_49 : decode cX5_unite 49 = .ok (.iconst 0, 1) := by decide +kernel
theorem dX5_unite_50 : decode cX5_unite 50 = .ok (.ireturn, 1) := by decide +kernel
theorem dX5_unite_51 : decode cX5_unite 51 = .ok (.iload 4, 2) := by decide +kernel
theorem dX5_unite_53 : decode cX5_unite 53 = .ok (.istore 5, 2) := by decide +kernel
theorem dX5_unite_55 : decode cX5_unite 55 = .ok (.iload 5, 2) := by decide +kernel
theorem dX5_unite_57 : decode cX5_unite 57 = .ok (.aload_n 0, 1) := by decide +kernel
theorem dX5_unite_58 : decode cX5_unite 58 = .ok (.getfield 24, 3) := by decide +kernel
theorem dX5_unite_61 : decode cX5_unite 61 = .ok (.if_icmp .ge 29, 3) := by decide +kernel
theorem dX5_unite_64 : decode cX5_unite 64 = .ok (.aload_n 0, 1) := by decide +kernel
theorem dX5_unite_65 : decode cX5_unite 65 = .ok (.getfield 11, 3) := by decide +kernel
theorem dX5_unite_68 : decode cX5_unite 68 = .ok (.iload 5, 2) := by decide +kernel
theorem dX5_unite_70 : decode cX5_unite 70 = .ok (.iaload, 1) := by decide +kernel
theorem dX5_unite_71 : decode cX5_unite 71 = .ok (.iload 4, 2) := by decide +kernel
theorem dX5_unite_73 : decode cX5_unite 73 = .ok (.if_icmp .ne 11, 3) := by decide +kernel
theorem dX5_unite_76 : decode cX5_unite 76 = .ok (.aload_n 0, 1) := by decide +kernel
theorem dX5_unite_77 : decode cX5_unite 77 = .ok (.getfield 11, 3) := by decide +kernel
theorem dX5_unite_80 : decode cX5_unite 80 = .ok (.iload 5, 2) := by decide +kernel
theorem dX5_unite_82 : decode cX5_unite 82 = .ok (.iload_n 3, 1) := by decide +kernel
theorem dX5_unite_83 : decode cX5_unite 83 = .ok (.iastore, 1) := by decide +kernel
theorem dX5_unite_84 : decode cX5_unite 84 = .ok (.iinc 5 1, 3) := by decide +kernel
theorem dX5_unite_87 : decode cX5_unite 87 = .ok (.goto (-32), 3) := by decide +kernel
theorem dX5_unite_90 : decode cX5_unite 90 = .ok (.aload_n 0, 1) := by decide +kernel
theorem dX5_unite_91 : decode cX5_unite 91 = .ok (.getfield 15, 3) := by decide +kernel
theorem dX5_unite_94 : decode cX5_unite 94 = .ok (.iload_n 3, 1) := by decide +kernel
theorem dX5_unite_95 : decode cX5_unite 95 = .ok (.dup2, 1) := by decide +kernel
theorem dX5_unite_96 : decode cX5_unite 96 = .ok (.iaload, 1) := by decide +kernel
theorem dX5_unite_97 : decode cX5_unite 97 = .ok (.aload_n 0, 1) := by decide +kernel
theorem dX5_unite_98 : decode cX5_unite 98 = .ok (.getfield 15, 3) := by decide +kernel
theorem dX5_unite_101 : decode cX5_unite 101 = .ok (.iload 4, 2) := by decide +kernel
theorem dX5_unite_103 : decode cX5_unite 103 = .ok (.iaload, 1) := by decide +kernel
theorem dX5_unite_104 : decode cX5_unite 104 = .ok (.iadd, 1) := by decide +kernel
theorem dX5_unite_105 : decode cX5_unite 105 = .ok (.iastore, 1) := by decide +kernel
theorem dX5_unite_106 : decode cX5_unite 106 = .ok (.aload_n 0, 1) := by decide +kernel
theorem dX5_unite_107 : decode cX5_unite 107 = .ok (.getfield 21, 3) := by decide +kernel
theorem dX5_unite_110 : decode cX5_unite 110 = .ok (.iload_n 3, 1) := by decide +kernel
theorem dX5_unite_111 : decode cX5_unite 111 = .ok (.iaload, 1) := by decide +kernel
theorem dX5_unite_112 : decode cX5_unite 112 = .ok (.iconst (-1), 1) := by decide +kernel
theorem dX5_unite_113 : decode cX5_unite 113 = .ok (.if_icmp .ne 16, 3) := by decide +kernel
theorem dX5_unite_116 : decode cX5_unite 116 = .ok (.aload_n 0, 1) := by decide +kernel
theorem dX5_unite_117 : decode cX5_unite 117 = .ok (.getfield 21, 3) := by decide +kernel
theorem dX5_unite_120 : decode cX5_unite 120 = .ok (.iload_n 3, 1) := by decide +kernel
theorem dX5_unite_121 : decode cX5_unite 121 = .ok (.aload_n 0, 1) := by decide +kernel
theorem dX5_unite_122 : decode cX5_unite 122 = .ok (.getfield 21, 3) := by decide +kernel
theorem dX5_unite_125 : decode cX5_unite 125 = .ok (.iload 4, 2) := by decide +kernel
theorem dX5_unite_127 : decode cX5_unite 127 = .ok (.iaload, 1) := by decide +kernel
theorem dX5_unite_128 : decode cX5_unite 128 = .ok (.iastore, 1) := by decide +kernel
theorem dX5_unite_129 : decode cX5_unite 129 = .ok (.iconst 1, 1) := by decide +kernel
theorem dX5_unite_130 : decode cX5_unite 130 = .ok (.ireturn, 1) := by decide +kernel
theorem dX5_fit_0 : decode cX5_fit 0 = .ok (.aload_n 0, 1) := by decide +kernel
theorem dX5_fit_1 : decode cX5_fit 1 = .ok (.getfield 21, 3) := by decide +kernel
theorem dX5_fit_4 : decode cX5_fit 4 = .ok (.iload_n 1, 1) := by decide +kernel
theorem dX5_fit_5 : decode cX5_fit 5 = .ok (.iaload, 1) := by decide +kernel
theorem dX5_fit_6 : decode cX5_fit 6 = .ok (.iconst (-1), 1) := by decide +kernel
theorem dX5_fit_7 : decode cX5_fit 7 = .ok (.if_icmp .eq 28, 3) := by decide +kernel
theorem dX5_fit_10 : decode cX5_fit 10 = .ok (.aload_n 0, 1) := by decide +kernel
theorem dX5_fit_11 : decode cX5_fit 11 = .ok (.getfield 21, 3) := by decide +kernel
theorem dX5_fit_14 : decode cX5_fit 14 = .ok (.iload_n 2, 1) := by decide +kernel
theorem dX5_fit_15 : decode cX5_fit 15 = .ok (.iaload, 1) := by decide +kernel
theorem dX5_fit_16 : decode cX5_fit 16 = .ok (.iconst (-1), 1) := by decide +kernel
theorem dX5_fit_17 : decode cX5_fit 17 = .ok (.if_icmp .eq 18, 3) := by decide +kernel
theorem dX5_fit_20 : decode cX5_fit 20 = .ok (.aload_n 0, 1) := by decide +kernel
theorem dX5_fit_21 : decode cX5_fit 21 = .ok (.getfield 21, 3) := by decide +kernel
theorem dX5_fit_24 : decode cX5_fit 24 = .ok (.iload_n 1, 1) := by decide +kernel
theorem dX5_fit_25 : decode cX5_fit 25 = .ok (.iaload, 1) := by decide +kernel
theorem dX5_fit_26 : decode cX5_fit 26 = .ok (.aload_n 0, 1) := by decide +kernel
theorem dX5_fit_27 : decode cX5_fit 27 = .ok (.getfield 21, 3) := by decide +kernel
theorem dX5_fit_30 : decode cX5_fit 30 = .ok (.iload_n 2, 1) := by decide +kernel
theorem dX5_fit_31 : decode cX5_fit 31 = .ok (.iaload, 1) := by decide +kernel
theorem dX5_fit_32 : decode cX5_fit 32 = .ok (.if_icmp .ne 7, 3) := by decide +kernel
theorem dX5_fit_35 : decode cX5_fit 35 = .ok (.iconst 1, 1) := by decide +kernel
theorem dX5_fit_36 : decode cX5_fit 36 = .ok (.goto 4, 3) := by decide +kernel
theorem dX5_fit_39 : decode cX5_fit 39 = .ok (.iconst 0, 1) := by decide +kernel
theorem dX5_fit_40 : decode cX5_fit 40 = .ok (.istore_n 3, 1) := by decide +kernel
theorem dX5_fit_41 : decode cX5_fit 41 = .ok (.aload_n 0, 1) := by decide +kernel
theorem dX5_fit_42 : decode cX5_fit 42 = .ok (.getfield 18, 3) := by decide +kernel
theorem dX5_fit_45 : decode cX5_fit 45 = .ok (.iload_n 1, 1) := by decide +kernel
theorem dX5_fit_46 : decode cX5_fit 46 = .ok (.iaload, 1) := by decide +kernel
theorem dX5_fit_47 : decode cX5_fit 47 = .ok (.aload_n 0, 1) := by decide +kernel
theorem dX5_fit_48 : decode cX5_fit 48 = .ok (.getfield 18, 3) := by decide +kernel
theorem dX5_fit_51 : decode cX5_fit 51 = .ok (.iload_n 2, 1) := by decide +kernel
theorem dX5_fit_52 : decode cX5_fit 52 = .ok (.iaload, 1) := by decide +kernel
theorem dX5_fit_53 : decode cX5_fit 53 = .ok (.if_icmp .ne 11, 3) := by decide +kernel
theorem dX5_fit_56 : decode cX5_fit 56 = .ok (.iload_n 3, 1) := by decide +kernel
theorem dX5_fit_57 : decode cX5_fit 57 = .ok (.ifCond .eq 7, 3) := by decide +kernel
theorem dX5_fit_60 : decode cX5_fit 60 = .ok (.iconst 1, 1) := by decide +kernel
theorem dX5_fit_61 : decode cX5_fit 61 = .ok (.goto 4, 3) := by decide +kernel
theorem dX5_fit_64 : decode cX5_fit 64 = .ok (.iconst 0, 1) := by decide +kernel
theorem dX5_fit_65 : decode cX5_fit 65 = .ok (.ireturn, 1) := by decide +kernel
theorem dX5_allVessels_0 : decode cX5_allVessels 0 = .ok (.iconst 0, 1) := by decide +kernel
theorem dX5_allVessels_1 : decode cX5_allVessels 1 = .ok (.istore_n 1, 1) := by decide +kernel
theorem dX5_allVessels_2 : decode cX5_allVessels 2 = .ok (.iconst 0, 1) := by decide +kernel
theorem dX5_allVessels_3 : decode cX5_allVessels 3 = .ok (.istore_n 2, 1) := by decide +kernel
theorem dX5_allVessels_4 : decode cX5_allVessels 4 = .ok (.iload_n 2, 1) := by decide +kernel
theorem dX5_allVessels_5 : decode cX5_allVessels 5 = .ok (.aload_n 0, 1) := by decide +kernel
theorem dX5_allVessels_6 : decode cX5_allVessels 6 = .ok (.getfield 24, 3) := by decide +kernel
theorem dX5_allVessels_9 : decode cX5_allVessels 9 = .ok (.if_icmp .ge 22, 3) := by decide +kernel
theorem dX5_allVessels_12 : decode cX5_allVessels 12 = .ok (.aload_n 0, 1) := by decide +kernel
theorem dX5_allVessels_13 : decode cX5_allVessels 13 = .ok (.getfield 11, 3) := by decide +kernel
theorem dX5_allVessels_16 : decode cX5_allVessels 16 = .ok (.iload_n 2, 1) := by decide +kernel
theorem dX5_allVessels_17 : decode cX5_allVessels 17 = .ok (.iaload, 1) := by decide +kernel
theorem dX5_allVessels_18 : decode cX5_allVessels 18 = .ok (.iload_n 2, 1) := by decide +kernel
theorem dX5_allVessels_19 : decode cX5_allVessels 19 = .ok (.if_icmp .ne 6, 3) := by decide +kernel
theorem dX5_allVessels_22 : decode cX5_allVessels 22 = .ok (.iinc 1 1, 3) := by decide +kernel
theorem dX5_allVessels_25 : decode cX5_allVessels 25 = .ok (.iinc 2 1, 3) := by decide +kernel
theorem dX5_allVessels_28 : decode cX5_allVessels 28 = .ok (.goto (-24), 3) := by decide +kernel
theorem dX5_allVessels_31 : decode cX5_allVessels 31 = .ok (.iload_n 1, 1) := by decide +kernel
theorem dX5_allVessels_32 : decode cX5_allVessels 32 = .ok (.ireturn, 1) := by decide +kernel
theorem dX5_vesselsWith_0 : decode cX5_vesselsWith 0 = .ok (.iconst 0, 1) := by decide +kernel
theorem dX5_vesselsWith_1 : decode cX5_vesselsWith 1 = .ok (.istore_n 2, 1) := by decide +kernel
theorem dX5_vesselsWith_2 : decode cX5_vesselsWith 2 = .ok (.iconst 0, 1) := by decide +kernel
theorem dX5_vesselsWith_3 : decode cX5_vesselsWith 3 = .ok (.istore_n 3, 1) := by decide +kernel
theorem dX5_vesselsWith_4 : decode cX5_vesselsWith 4 = .ok (.iload_n 3, 1) := by decide +kernel
theorem dX5_vesselsWith_5 : decode cX5_vesselsWith 5 = .ok (.aload_n 0, 1) := by decide +kernel
theorem dX5_vesselsWith_6 : decode cX5_vesselsWith 6 = .ok (.getfield 24, 3) := by decide +kernel
theorem dX5_vesselsWith_9 : decode cX5_vesselsWith 9 = .ok (.if_icmp .ge 32, 3) := by decide +kernel
theorem dX5_vesselsWith_12 : decode cX5_vesselsWith 12 = .ok (.aload_n 0, 1) := by decide +kernel
theorem dX5_vesselsWith_13 : decode cX5_vesselsWith 13 = .ok (.getfield 11, 3) := by decide +kernel
theorem dX5_vesselsWith_16 : decode cX5_vesselsWith 16 = .ok (.iload_n 3, 1) := by decide +kernel
theorem dX5_vesselsWith_17 : decode cX5_vesselsWith 17 = .ok (.iaload, 1) := by decide +kernel
theorem dX5_vesselsWith_18 : decode cX5_vesselsWith 18 = .ok (.iload_n 3, 1) := by decide +kernel
theorem dX5_vesselsWith_19 : decode cX5_vesselsWith 19 = .ok (.if_icmp .ne 16, 3) := by decide +kernel
theorem dX5_vesselsWith_22 : decode cX5_vesselsWith 22 = .ok (.aload_n 0, 1) := by decide +kernel
theorem dX5_vesselsWith_23 : decode cX5_vesselsWith 23 = .ok (.getfield 21, 3) := by decide +kernel
theorem dX5_vesselsWith_26 : decode cX5_vesselsWith 26 = .ok (.iload_n 3, 1) := by decide +kernel
theorem dX5_vesselsWith_27 : decode cX5_vesselsWith 27 = .ok (.iaload, 1) := by decide +kernel
theorem dX5_vesselsWith_28 : decode cX5_vesselsWith 28 = .ok (.iload_n 1, 1) := by decide +kernel
theorem dX5_vesselsWith_29 : decode cX5_vesselsWith 29 = .ok (.if_icmp .ne 6, 3) := by decide +kernel
theorem dX5_vesselsWith_32 : decode cX5_vesselsWith 32 = .ok (.iinc 2 1, 3) := by decide +kernel
theorem dX5_vesselsWith_35 : decode cX5_vesselsWith 35 = .ok (.iinc 3 1, 3) := by decide +kernel
theorem dX5_vesselsWith_38 : decode cX5_vesselsWith 38 = .ok (.goto (-34), 3) := by decide +kernel
theorem dX5_vesselsWith_41 : decode cX5_vesselsWith 41 = .ok (.iload_n 2, 1) := by decide +kernel
theorem dX5_vesselsWith_42 : decode cX5_vesselsWith 42 = .ok (.ireturn, 1) := by decide +kernel
