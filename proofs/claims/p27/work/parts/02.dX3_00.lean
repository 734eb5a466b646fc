theorem dX3_init_0 : decode cX3_init 0 = .ok (.aload_n 0, 1) := by decide +kernel
theorem dX3_init_1 : decode cX3_init 1 = .ok (.invokespecial 3, 3) := by decide +kernel
theorem dX3_init_4 : decode cX3_init 4 = .ok (.aload_n 0, 1) := by decide +kernel
theorem dX3_init_5 : decode cX3_init 5 = .ok (.iconst 5, 1) := by decide +kernel
theorem dX3_init_6 : decode cX3_init 6 = .ok (.newarray .int, 2) := by decide +kernel
theorem dX3_init_8 : decode cX3_init 8 = .ok (.putfield 11, 3) := by decide +kernel
theorem dX3_init_11 : decode cX3_init 11 = .ok (.return_, 1) := by decide +kernel
set_option maxRecDepth 20000 in
theorem ggX3_readFrom_X7_past : GoodIn wsX3_readFrom wsX7_past := goodIn_sub (xc (xt1 (xl (xl (xl (xt4 (xt1 (xh))))))) (xa (xc (xt1 (xl (xl (xl (xt4 (xt1 (xt1 (xh)))))))) (xc (xt1 (xl (xl (xl (xt4 (xt1 (xt1 (xt1 (xh))))))))) (xn))) (fun _ h => xt1 (xr (h))))) (by decide +kernel)
set_option maxRecDepth 20000 in
theorem gX3_readFrom_X7_past : GoodIn wsX3_readFrom (wsV RX3 15 RX7 yX7_past wsX7_past) := goodIn_app (goodIn_sub (xc (xt1 (xl (xl (xl (xt1 (xh)))))) (xc (xt1 (xl (xl (xl (xt1 (xt1 (xh))))))) (xc (xt1 (xl (xl (xl (xt1 (xt1 (xt1 (xh)))))))) (xc (xt1 (xl (xl (xl (xt4 (xh)))))) (xn))))) (by decide +kernel)) ggX3_readFrom_X7_past
set_option maxRecDepth 20000 in
theorem ggX3_readFrom_X3_wordOf : GoodIn wsX3_readFrom wsX3_wordOf := goodIn_sub (xc (xt1 (xl (xl (xl (xt4 (xt4 (xt1 (xt1 (xt1 (xh)))))))))) (xn)) (by decide +kernel)
set_option maxRecDepth 20000 in
theorem gX3_readFrom_X3_wordOf : GoodIn wsX3_readFrom (va_wsS RX3 21 yX3_wordOf wsX3_wordOf) := goodIn_app (goodIn_sub (xc (xt1 (xl (xl (xl (xt4 (xt4 (xh))))))) (xc (xt1 (xl (xl (xl (xt4 (xt4 (xt1 (xh)))))))) (xc (xt1 (xl (xl (xl (xt4 (xt4 (xt1 (xt1 (xh))))))))) (xn)))) (by decide +kernel)) ggX3_readFrom_X3_wordOf
set_option maxRecDepth 20000 in
theorem ggX3_readFrom_X7_reads : GoodIn wsX3_readFrom wsX7_reads := goodIn_sub (xc (xt1 (xl (xl (xl (xt4 (xt4 (xt4 (xt1 (xt1 (xt1 (xh))))))))))) (xa (xa (xc (xt1 (xl (xl (xl (xt4 (xt1 (xt1 (xt1 (xh))))))))) (xc (xt1 (xl (xl (xl (xt16 (xh)))))) (xc (xt1 (xl (xl (xl (xt16 (xt1 (xh))))))) (xc (xt1 (xl (xl (xl (xt16 (xt1 (xt1 (xh)))))))) (xc (xt1 (xl (xl (xl (xt16 (xt1 (xt1 (xt1 (xh))))))))) (xc (xt1 (xl (xl (xl (xt16 (xt4 (xh))))))) (xc (xt1 (xl (xl (xl (xt16 (xt4 (xt1 (xh)))))))) (xc (xt1 (xl (xl (xl (xt16 (xt4 (xt1 (xt1 (xh))))))))) (xc (xt1 (xl (xl (xl (xt16 (xt4 (xt1 (xt1 (xt1 (xh)))))))))) (xc (xt1 (xl (xl (xr (xl (xh)))))) (xc (xt1 (xl (xl (xr (xl (xt1 (xh))))))) (xc (xt1 (xl (xl (xr (xl (xt1 (xt1 (xh)))))))) (xc (xt1 (xl (xl (xr (xl (xt1 (xt1 (xt1 (xh))))))))) (xc (xt1 (xl (xl (xr (xl (xt4 (xh))))))) (xc (xt1 (xl (xl (xr (xl (xt4 (xt1 (xh)))))))) (xc (xt1 (xl (xl (xr (xl (xt4 (xt1 (xt1 (xh))))))))) (xc (xt1 (xl (xl (xr (xl (xt4 (xt1 (xt1 (xt1 (xh)))))))))) (xc (xt1 (xl (xl (xr (xl (xt4 (xt4 (xh)))))))) (xc (xt1 (xl (xl (xr (xl (xt4 (xt4 (xt1 (xh))))))))) (xc (xt1 (xl (xl (xr (xl (xt4 (xt4 (xt1 (xt1 (xh)))))))))) (xc (xt1 (xl (xl (xr (xl (xt4 (xt4 (xt1 (xt1 (xt1 (xh))))))))))) (xc (xt1 (xl (xl (xr (xl (xt4 (xt4 (xt4 (xh))))))))) (xc (xt1 (xl (xl (xr (xl (xt4 (xt4 (xt4 (xt1 (xh)))))))))) (xc (xt1 (xl (xl (xr (xl (xt4 (xt4 (xt4 (xt1 (xt1 (xh))))))))))) (xn))))))))))))))))))))))))) (xa (xc (xt1 (xl (xl (xr (xl (xt4 (xt4 (xt4 (xt1 (xt1 (xt1 (xh)))))))))))) (xc (xt1 (xl (xl (xr (xl (xt16 (xh))))))) (xc (xt1 (xl (xl (xr (xl (xt16 (xt1 (xh)))))))) (xc (xt1 (xl (xl (xr (xl (xt16 (xt1 (xt1 (xh))))))))) (xc (xt1 (xl (xl (xr (xl (xt16 (xt1 (xt1 (xt1 (xh)))))))))) (xc (xt1 (xl (xl (xr (xl (xt16 (xt4 (xh)))))))) (xc (xt1 (xl (xl (xr (xl (xt16 (xt4 (xt1 (xh))))))))) (xc (xt1 (xl (xl (xr (xl (xt16 (xt4 (xt1 (xt1 (xh)))))))))) (xc (xt1 (xl (xl (xr (xl (xt16 (xt4 (xt1 (xt1 (xt1 (xh))))))))))) (xc (xt1 (xl (xl (xr (xr (xl (xh))))))) (xc (xt1 (xl (xl (xr (xr (xl (xt1 (xh)))))))) (xc (xt1 (xl (xl (xr (xr (xl (xt1 (xt1 (xh))))))))) (xc (xt1 (xl (xl (xr (xr (xl (xt1 (xt1 (xt1 (xh)))))))))) (xc (xt1 (xl (xl (xr (xr (xl (xt4 (xh)))))))) (xc (xt1 (xl (xl (xr (xr (xl (xt4 (xt1 (xh))))))))) (xc (xt1 (xl (xl (xr (xr (xl (xt4 (xt1 (xt1 (xh)))))))))) (xc (xt1 (xl (xl (xr (xr (xl (xt4 (xt1 (xt1 (xt1 (xh))))))))))) (xc (xt1 (xl (xl (xr (xr (xl (xt4 (xt4 (xh))))))))) (xc (xt1 (xl (xl (xr (xr (xl (xt4 (xt4 (xt1 (xh)))))))))) (xc (xt1 (xl (xl (xr (xr (xl (xt4 (xt4 (xt1 (xt1 (xh))))))))))) (xc (xt1 (xl (xl (xr (xr (xl (xt4 (xt4 (xt1 (xt1 (xt1 (xh)))))))))))) (xc (xt1 (xl (xl (xr (xr (xl (xt4 (xt4 (xt4 (xh)))))))))) (xc (xt1 (xl (xl (xr (xr (xl (xt4 (xt4 (xt4 (xt1 (xh))))))))))) (xc (xt1 (xl (xl (xr (xr (xl (xt4 (xt4 (xt4 (xt1 (xt1 (xh)))))))))))) (xn))))))))))))))))))))))))) (xc (xt1 (xl (xl (xr (xr (xl (xt4 (xt4 (xt4 (xt1 (xt1 (xt1 (xh))))))))))))) (xc (xt1 (xl (xl (xr (xr (xl (xt16 (xh)))))))) (xn))))) (fun _ h => xt1 (xr (h))))) (by decide +kernel)
set_option maxRecDepth 20000 in
theorem gX3_readFrom_X7_reads : GoodIn wsX3_readFrom (wsV RX3 25 RX7 yX7_reads wsX7_reads) := goodIn_app (goodIn_sub (xc (xt1 (xl (xl (xl (xt4 (xt4 (xt4 (xh)))))))) (xc (xt1 (xl (xl (xl (xt4 (xt4 (xt4 (xt1 (xh))))))))) (xc (xt1 (xl (xl (xl (xt4 (xt4 (xt4 (xt1 (xt1 (xh)))))))))) (xc (xt1 (xl (xl (xl (xt4 (xh)))))) (xn))))) (by decide +kernel)) ggX3_readFrom_X7_reads
set_option maxRecDepth 20000 in
theorem ggX3_readFrom_X7_digitsFrom : GoodIn wsX3_readFrom wsX7_digitsFrom := goodIn_sub (xc (xt1 (xl (xl (xr (xr (xl (xt16 (xt4 (xh))))))))) (xa (xc (xt1 (xl (xl (xl (xt4 (xt1 (xt1 (xt1 (xh))))))))) (xn)) (fun _ h => xt1 (xr (h))))) (by decide +kernel)
set_option maxRecDepth 20000 in
theorem gX3_readFrom_X7_digitsFrom : GoodIn wsX3_readFrom (wsV RX3 29 RX7 yX7_digitsFrom wsX7_digitsFrom) := goodIn_app (goodIn_sub (xc (xt1 (xl (xl (xr (xr (xl (xt16 (xt1 (xh))))))))) (xc (xt1 (xl (xl (xr (xr (xl (xt16 (xt1 (xt1 (xh)))))))))) (xc (xt1 (xl (xl (xr (xr (xl (xt16 (xt1 (xt1 (xt1 (xh))))))))))) (xc (xt1 (xl (xl (xl (xt4 (xh)))))) (xn))))) (by decide +kernel)) ggX3_readFrom_X7_digitsFrom
set_option maxRecDepth 20000 in
theorem ggX3_readFrom_X7_endsAt : GoodIn wsX3_readFrom wsX7_endsAt := goodIn_sub (xc (xt1 (xl (xl (xr (xr (xr (xh))))))) (xa (xc (xt1 (xl (xl (xl (xt4 (xt1 (xt1 (xh)))))))) (xn)) (fun _ h => xt1 (xr (h))))) (by decide +kernel)
set_option maxRecDepth 20000 in
theorem gX3_readFrom_X7_endsAt : GoodIn wsX3_readFrom (wsV RX3 33 RX7 yX7_endsAt wsX7_endsAt) := goodIn_app (goodIn_sub (xc (xt1 (xl (xl (xr (xr (xl (xt16 (xt4 (xt1 (xh)))))))))) (xc (xt1 (xl (xl (xr (xr (xl (xt16 (xt4 (xt1 (xt1 (xh))))))))))) (xc (xt1 (xl (xl (xr (xr (xl (xt16 (xt4 (xt1 (xt1 (xt1 (xh)))))))))))) (xc (xt1 (xl (xl (xl (xt4 (xh)))))) (xn))))) (by decide +kernel)) ggX3_readFrom_X7_endsAt
theorem dX3_readFrom_0 : decode cX3_readFrom 0 = .ok (.iconst 0, 1) := by decide +kernel
theorem dX3_readFrom_1 : decode cX3_readFrom 1 = .ok (.istore_n 2, 1) := by decide +kernel
theorem dX3_readFrom_2 : decode cX3_readFrom 2 = .ok (.iconst 0, 1) := by decide +kernel
theorem dX3_readFrom_3 : decode cX3_readFrom 3 = .ok (.istore_n 3, 1) := by decide +kernel
theorem dX3_readFrom_4 : decode cX3_readFrom 4 = .ok (.iload_n 3, 1) := by decide +kernel
theorem dX3_readFrom_5 : decode cX3_readFrom 5 = .ok (.iconst 5, 1) := by decide +kernel
theorem dX3_readFrom_6 : decode cX3_readFrom 6 = .ok (.if_icmp .ge 100, 3) := by decide +kernel
theorem dX3_readFrom_9 : decode cX3_readFrom 9 = .ok (.aload_n 1, 1) := by decide +kernel
theorem dX3_readFrom_10 : decode cX3_readFrom 10 = .ok (.iload_n 2, 1) := by decide +kernel
theorem dX3_readFrom_11 : decode cX3_readFrom 11 = .ok (.bipush 32, 2) := by decide +kernel
theorem dX3_readFrom_13 : decode cX3_readFrom 13 = .ok (.bipush 32, 2) := by decide +kernel
theorem dX3_readFrom_15 : decode cX3_readFrom 15 = .ok (.invokevirtual 15, 3) := by decide +kernel
theorem dX3_readFrom_18 : decode cX3_readFrom 18 = .ok (.istore_n 2, 1) := by decide +kernel
theorem dX3_readFrom_19 : decode cX3_readFrom 19 = .ok (.aload_n 1, 1) := by decide +kernel
theorem dX3_readFrom_20 : decode cX3_readFrom 20 = .ok (.iload_n 2, 1) := by decide +kernel
theorem dX3_readFrom_21 : decode cX3_readFrom 21 = .ok (.bipush 97, 2) := by decide +kernel
theorem dX3_readFrom_23 : decode cX3_readFrom 23 = .ok (.bipush 122, 2) := by decide +kernel
theorem dX3_readFrom_25 : decode cX3_readFrom 25 = .ok (.invokevirtual 15, 3) := by decide +kernel
theorem dX3_readFrom_28 : decode cX3_readFrom 28 = .ok (.istore 4, 2) := by decide +kernel
theorem dX3_readFrom_30 : decode cX3_readFrom 30 = .ok (.aload_n 1, 1) := by decide +kernel
theorem dX3_readFrom_31 : decode cX3_readFrom 31 = .ok (.iload_n 2, 1) := by decide +kernel
theorem dX3_readFrom_32 : decode cX3_readFrom 32 = .ok (.iload 4, 2) := by decide +kernel
theorem dX3_readFrom_34 : decode cX3_readFrom 34 = .ok (.iload_n 3, 1) := by decide +kernel
theorem dX3_readFrom_35 : decode cX3_readFrom 35 = .ok (.invokestatic 21, 3) := by decide +kernel
theorem dX3_readFrom_38 : decode cX3_readFrom 38 = .ok (.invokevirtual 25, 3) := by decide +kernel
theorem dX3_readFrom_41 : decode cX3_readFrom 41 = .ok (.ifCond .ne 5, 3) := by decide +kernel
theorem dX3_readFrom_44 : decode cX3_readFrom 44 = .ok (.iload_n 2, 1) := by decide +kernel
theorem dX3_readFrom_45 : decode cX3_readFrom 45 = .ok (.ireturn, 1) := by decide +kernel
theorem dX3_readFrom_46 : decode cX3_readFrom 46 = .ok (.aload_n 1, 1) := by decide +kernel
theorem dX3_readFrom_47 : decode cX3_readFrom 47 = .ok (.iload 4, 2) := by decide +kernel
theorem dX3_readFrom_49 : decode cX3_readFrom 49 = .ok (.bipush 32, 2) := by decide +kernel
theorem dX3_readFrom_51 : decode cX3_readFrom 51 = .ok (.bipush 32, 2) := by decide +kernel
theorem dX3_readFrom_53 : decode cX3_readFrom 53 = .ok (.invokevirtual 15, 3) := by decide +kernel
theorem dX3_readFrom_56 : decode cX3_readFrom 56 = .ok (.istore_n 2, 1) := by decide +kernel
theorem dX3_readFrom_57 : decode cX3_readFrom 57 = .ok (.aload_n 1, 1) := by decide +kernel
theorem dX3_readFrom_58 : decode cX3_readFrom 58 = .ok (.iload_n 2, 1) := by decide +kernel
theorem dX3_readFrom_59 : decode cX3_readFrom 59 = .ok (.bipush 48, 2) := by decide +kernel
theorem dX3_readFrom_61 : decode cX3_readFrom 61 = .ok (.bipush 57, 2) := by decide +kernel
theorem dX3_readFrom_63 : decode cX3_readFrom 63 = .ok (.invokevirtual 15, 3) := by decide +kernel
theorem dX3_readFrom_66 : decode cX3_readFrom 66 = .ok (.istore 5, 2) := by decide +kernel
theorem dX3_readFrom_68 : decode cX3_readFrom 68 = .ok (.iload 5, 2) := by decide +kernel
theorem dX3_readFrom_70 : decode cX3_readFrom 70 = .ok (.iload_n 2, 1) := by decide +kernel
theorem dX3_readFrom_71 : decode cX3_readFrom 71 = .ok (.if_icmp .eq 11, 3) := by decide +kernel
theorem dX3_readFrom_74 : decode cX3_readFrom 74 = .ok (.iload 5, 2) := by decide +kernel
theorem dX3_readFrom_76 : decode cX3_readFrom 76 = .ok (.iload_n 2, 1) := by decide +kernel
theorem dX3_readFrom_77 : decode cX3_readFrom 77 = .ok (.isub, 1) := by decide +kernel
theorem dX3_readFrom_78 : decode cX3_readFrom 78 = .ok (.iconst 5, 1) := by decide +kernel
theorem dX3_readFrom_79 : decode cX3_readFrom 79 = .ok (.if_icmp .le 5, 3) := by decide +kernel
theorem dX3_readFrom_82 : decode cX3_readFrom 82 = .ok (.iload_n 2, 1) := by decide +kernel
theorem dX3_readFrom_83 : decode cX3_readFrom 83 = .ok (.ireturn, 1) := by decide +kernel
theorem dX3_readFrom_84 : decode cX3_readFrom 84 = .ok (.aload_n 0, 1) := by decide +kernel
theorem dX3_readFrom_85 : decode cX3_readFrom 85 = .ok (.getfield 11, 3) := by decide +kernel
theorem dX3_readFrom_88 : decode cX3_readFrom 88 = .ok (.iload_n 3, 1) := by decide +kernel
theorem dX3_readFrom_89 : decode cX3_readFrom 89 = .ok (.aload_n 1, 1) := by decide +kernel
theorem dX3_readFrom_90 : decode cX3_readFrom 90 = .ok (.iload_n 2, 1) := by decide +kernel
theorem dX3_readFrom_91 : decode cX3_readFrom 91 = .ok (.iload 5, 2) := by decide +kernel
theorem dX3_readFrom_93 : decode cX3_readFrom 93 = .ok (.invokevirtual 29, 3) := by decide +kernel
theorem dX3_readFrom_96 : decode cX3_readFrom 96 = .ok (.iastore, 1) := by decide +kernel
theorem dX3_readFrom_97 : decode cX3_readFrom 97 = .ok (.iload 5, 2) := by decide +kernel
theorem dX3_readFrom_99 : decode cX3_readFrom 99 = .ok (.istore_n 2, 1) := by decide +kernel
theorem dX3_readFrom_100 : decode cX3_readFrom 100 = .ok (.iinc 3 1, 3) := by decide +kernel
theorem dX3_readFrom_103 : decode cX3_readFrom 103 = .ok (.goto (-99), 3) := by decide +kernel
theorem dX3_readFrom_106 : decode cX3_readFrom 106 = .ok (.aload_n 1, 1) := by decide +kernel
theorem dX3_readFrom_107 : decode cX3_readFrom 107 = .ok (.iload_n 2, 1) := by decide +kernel
theorem dX3_readFrom_108 : decode cX3_readFrom 108 = .ok (.bipush 32, 2) := by decide +kernel
theorem dX3_readFrom_110 : decode cX3_readFrom 110 = .ok (.bipush 32, 2) := by decide +kernel
theorem dX3_readFrom_112 : decode cX3_readFrom 112 = .ok (.invokevirtual 15, 3) := by decide +kernel
theorem dX3_readFrom_115 : decode cX3_readFrom 115 = .ok (.istore_n 2, 1) := by decide +kernel
theorem dX3_readFrom_116 : decode cX3_readFrom 116 = .ok (.aload_n 1, 1) := by decide +kernel
theorem dX3_readFrom_117 : decode cX3_readFrom 117 = .ok (.iload_n 2, 1) := by decide +kernel
theorem dX3_readFrom_118 : decode cX3_readFrom 118 = .ok (.invokevirtual 33, 3) := by decide +kernel
theorem dX3_readFrom_121 : decode cX3_readFrom 121 = .ok (.ifCond .eq 7, 3) := by decide +kernel
theorem dX3_readFrom_124 : decode cX3_readFrom 124 = .ok (.iconst (-1), 1) := by decide +kernel
theorem dX3_readFrom_125 : decode cX3_readFrom 125 = .ok (.goto 4, 3) := by decide +kernel
theorem dX3_readFrom_128 : decode cX3_readFrom 128 = .ok (.iload_n 2, 1) := by decide +kernel
theorem dX3_readFrom_129 : decode cX3_readFrom 129 = .ok (.ireturn, 1) := by decide +kernel
theorem dX3_wordOf_0 : decode cX3_wordOf 0 = .ok (.iload_n 0, 1) := by decide +kernel
theorem dX3_wordOf_1 : decode cX3_wordOf 1 = .ok (.tableswitch 43 0 3 #[31, 34, 37, 40], 31) := by decide +kernel
theorem dX3_wordOf_32 : decode cX3_wordOf 32 = .ok (.ldc 37, 2) := by decide +kernel
theorem dX3_wordOf_34 : decode cX3_wordOf 34 = .ok (.areturn, 1) := by decide +kernel
theorem dX3_wordOf_35 : decode cX3_wordOf 35 = .ok (.ldc 39, 2) := by decide +kernel
theorem dX3_wordOf_37 : decode cX3_wordOf 37 = .ok (.areturn, 1) := by decide +kernel
theorem dX3_wordOf_38 : decode cX3_wordOf 38 = .ok (.ldc 41, 2) := by decide +kernel
theorem dX3_wordOf_40 : decode cX3_wordOf 40 = .ok (.areturn, 1) := by decide +kernel
theorem dX3_wordOf_41 : decode cX3_wordOf 41 = .ok (.ldc 43, 2) := by decide +kernel
theorem dX3_wordOf_43 : decode cX3_wordOf 43 = .ok (.areturn, 1) := by decide +kernel
theorem dX3_wordOf_44 : decode cX3_wordOf 44 = .ok (.ldc 45, 2) := by decide +kernel
theorem dX3_wordOf_46 : decode cX3_wordOf 46 = .ok (.areturn, 1) := by decide +kernel
