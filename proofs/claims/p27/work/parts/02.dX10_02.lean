theorem dX10_sherd_121 : decode cX10_sherd 121 = .ok (.getfield 208, 3) := by decide +kernel
theorem dX10_sherd_124 : decode cX10_sherd 124 = .ok (.iconst 1, 1) := by decide +kernel
theorem dX10_sherd_125 : decode cX10_sherd 125 = .ok (.isub, 1) := by decide +kernel
theorem dX10_sherd_126 : decode cX10_sherd 126 = .ok (.ireturn, 1) := by decide +kernel
theorem dX10_stampOf_0 : decode cX10_stampOf 0 = .ok (.iconst (-1), 1) := by decide +kernel
theorem dX10_stampOf_1 : decode cX10_stampOf 1 = .ok (.istore_n 2, 1) := by decide +kernel
theorem dX10_stampOf_2 : decode cX10_stampOf 2 = .ok (.iconst 0, 1) := by decide +kernel
theorem dX10_stampOf_3 : decode cX10_stampOf 3 = .ok (.istore_n 3, 1) := by decide +kernel
theorem dX10_stampOf_4 : decode cX10_stampOf 4 = .ok (.iload_n 3, 1) := by decide +kernel
theorem dX10_stampOf_5 : decode cX10_stampOf 5 = .ok (.aload_n 0, 1) := by decide +kernel
theorem dX10_stampOf_6 : decode cX10_stampOf 6 = .ok (.getfield 208, 3) := by decide +kernel
theorem dX10_stampOf_9 : decode cX10_stampOf 9 = .ok (.if_icmp .ge 35, 3) := by decide +kernel
theorem dX10_stampOf_12 : decode cX10_stampOf 12 = .ok (.aload_n 0, 1) := by decide +kernel
theorem dX10_stampOf_13 : decode cX10_stampOf 13 = .ok (.getfield 82, 3) := by decide +kernel
theorem dX10_stampOf_16 : decode cX10_stampOf 16 = .ok (.iload_n 3, 1) := by decide +kernel
theorem dX10_stampOf_17 : decode cX10_stampOf 17 = .ok (.iaload, 1) := by decide +kernel
theorem dX10_stampOf_18 : decode cX10_stampOf 18 = .ok (.iload_n 1, 1) := by decide +kernel
theorem dX10_stampOf_19 : decode cX10_stampOf 19 = .ok (.if_icmp .ne 19, 3) := by decide +kernel
theorem dX10_stampOf_22 : decode cX10_stampOf 22 = .ok (.aload_n 0, 1) := by decide +kernel
theorem dX10_stampOf_23 : decode cX10_stampOf 23 = .ok (.getfield 79, 3) := by decide +kernel
theorem dX10_stampOf_26 : decode cX10_stampOf 26 = .ok (.iload_n 3, 1) := by decide +kernel
theorem dX10_stampOf_27 : decode cX10_stampOf 27 = .ok (.iaload, 1) := by decide +kernel
theorem dX10_stampOf_28 : decode cX10_stampOf 28 = .ok (.ifCond .lt 10, 3) := by decide +kernel
theorem dX10_stampOf_31 : decode cX10_stampOf 31 = .ok (.aload_n 0, 1) := by decide +kernel
theorem dX10_stampOf_32 : decode cX10_stampOf 32 = .ok (.getfield 79, 3) := by decide +kernel
theorem dX10_stampOf_35 : decode cX10_stampOf 35 = .ok (.iload_n 3, 1) := by decide +kernel
theorem dX10_stampOf_36 : decode cX10_stampOf 36 = .ok (.iaload, 1) := by decide +kernel
theorem dX10_stampOf_37 : decode cX10_stampOf 37 = .ok (.istore_n 2, 1) := by decide +kernel
theorem dX10_stampOf_38 : decode cX10_stampOf 38 = .ok (.iinc 3 1, 3) := by decide +kernel
theorem dX10_stampOf_41 : decode cX10_stampOf 41 = .ok (.goto (-37), 3) := by decide +kernel
theorem dX10_stampOf_44 : decode cX10_stampOf 44 = .ok (.iload_n 2, 1) := by decide +kernel
theorem dX10_stampOf_45 : decode cX10_stampOf 45 = .ok (.ireturn, 1) := by decide +kernel
set_option maxRecDepth 20000 in
theorem ggX10_join_X10_noSherd : GoodIn wsX10_join wsX10_noSherd := goodIn_sub (xc (xt1 (xl (xl (xt4 (xt4 (xt4 (xt1 (xt1 (xt1 (xh)))))))))) (xa (xc (xt1 (xl (xl (xt4 (xt4 (xt1 (xt1 (xh)))))))) (xc (xt1 (xl (xl (xt16 (xh))))) (xc (xt1 (xl (xl (xt16 (xt1 (xh)))))) (xc (xt1 (xl (xl (xt4 (xt4 (xt4 (xt1 (xt1 (xh))))))))) (xc (xt1 (xl (xl (xt16 (xt1 (xt1 (xh))))))) (xn)))))) (fun _ h => xt1 (xr (h))))) (by decide +kernel)
set_option maxRecDepth 20000 in
theorem gX10_join_X10_noSherd : GoodIn wsX10_join (wsV RX10 214 RX10 yX10_noSherd wsX10_noSherd) := goodIn_app (goodIn_sub (xc (xt1 (xl (xl (xt4 (xt4 (xt1 (xt1 (xt1 (xh))))))))) (xc (xt1 (xl (xl (xt4 (xt4 (xt4 (xh))))))) (xc (xt1 (xl (xl (xt4 (xt4 (xt4 (xt1 (xh)))))))) (xc (xt1 (xl (xl (xt4 (xt4 (xt4 (xt1 (xt1 (xh))))))))) (xn))))) (by decide +kernel)) ggX10_join_X10_noSherd
set_option maxRecDepth 20000 in
theorem ggX10_join_X10_throwsIf : GoodIn wsX10_join wsX10_throwsIf := goodIn_sub (xc (xt1 (xl (xl (xt16 (xt4 (xt1 (xt1 (xh)))))))) (xa (xc (xt1 (xl (xl (xh)))) (xn)) (fun _ h => xt1 (xr (h))))) (by decide +kernel)
set_option maxRecDepth 20000 in
theorem gX10_join_X10_throwsIf : GoodIn wsX10_join (wsV RX10 122 RX10 yX10_throwsIf wsX10_throwsIf) := goodIn_app (goodIn_sub (xc (xt1 (xl (xl (xt16 (xt1 (xt1 (xt1 (xh)))))))) (xc (xt1 (xl (xl (xt16 (xt4 (xh)))))) (xc (xt1 (xl (xl (xt16 (xt4 (xt1 (xh))))))) (xc (xt1 (xl (xl (xt4 (xt4 (xt4 (xt1 (xt1 (xh))))))))) (xn))))) (by decide +kernel)) ggX10_join_X10_throwsIf
set_option maxRecDepth 20000 in
theorem ggX10_join_X10_stampOf : GoodIn wsX10_join wsX10_stampOf := goodIn_sub (xc (xt1 (xl (xr (xt1 (xt1 (xh)))))) (xa (xc (xt1 (xl (xl (xt4 (xt4 (xt1 (xt1 (xh)))))))) (xc (xt1 (xl (xl (xt1 (xh))))) (xc (xt1 (xl (xr (xt1 (xt1 (xt1 (xh))))))) (xn)))) (fun _ h => xt1 (xr (h))))) (by decide +kernel)
set_option maxRecDepth 20000 in
theorem gX10_join_X10_stampOf : GoodIn wsX10_join (wsV RX10 220 RX10 yX10_stampOf wsX10_stampOf) := goodIn_app (goodIn_sub (xc (xt1 (xl (xl (xt16 (xt4 (xt1 (xt1 (xt1 (xh))))))))) (xc (xt1 (xl (xr (xh)))) (xc (xt1 (xl (xr (xt1 (xh))))) (xc (xt1 (xl (xl (xt4 (xt4 (xt4 (xt1 (xt1 (xh))))))))) (xn))))) (by decide +kernel)) ggX10_join_X10_stampOf
theorem dX10_join_0 : decode cX10_join 0 = .ok (.aload_n 0, 1) := by decide +kernel
theorem dX10_join_1 : decode cX10_join 1 = .ok (.iconst 0, 1) := by decide +kernel
theorem dX10_join_2 : decode cX10_join 2 = .ok (.putfield 109, 3) := by decide +kernel
theorem dX10_join_5 : decode cX10_join 5 = .ok (.aload_n 0, 1) := by decide +kernel
theorem dX10_join_6 : decode cX10_join 6 = .ok (.aload_n 0, 1) := by decide +kernel
theorem dX10_join_7 : decode cX10_join 7 = .ok (.iload_n 1, 1) := by decide +kernel
theorem dX10_join_8 : decode cX10_join 8 = .ok (.invokevirtual 214, 3) := by decide +kernel
theorem dX10_join_11 : decode cX10_join 11 = .ok (.ifCond .ne 11, 3) := by decide +kernel
theorem dX10_join_14 : decode cX10_join 14 = .ok (.aload_n 0, 1) := by decide +kernel
theorem dX10_join_15 : decode cX10_join 15 = .ok (.iload_n 2, 1) := by decide +kernel
theorem dX10_join_16 : decode cX10_join 16 = .ok (.invokevirtual 214, 3) := by decide +kernel
theorem dX10_join_19 : decode cX10_join 19 = .ok (.ifCond .eq 7, 3) := by decide +kernel
theorem dX10_join_22 : decode cX10_join 22 = .ok (.iconst 1, 1) := by decide +kernel
theorem dX10_join_23 : decode cX10_join 23 = .ok (.goto 4, 3) := by decide +kernel
theorem dX10_join_26 : decode cX10_join 26 = .ok (.iconst 0, 1) := by decide +kernel
theorem dX10_join_27 : decode cX10_join 27 = .ok (.iconst 1, 1) := by decide +kernel
theorem dX10_join_28 : decode cX10_join 28 = .ok (.invokevirtual 122, 3) := by decide +kernel
theorem dX10_join_31 : decode cX10_join 31 = .ok (.ifCond .eq 5, 3) := by decide +kernel
theorem dX10_join_34 : decode cX10_join 34 = .ok (.iconst 0, 1) := by decide +kernel
theorem dX10_join_35 : decode cX10_join 35 = .ok (.ireturn, 1) := by decide +kernel
theorem dX10_join_36 : decode cX10_join 36 = .ok (.aload_n 0, 1) := by decide +kernel
theorem dX10_join_37 : decode cX10_join 37 = .ok (.getfield 82, 3) := by decide +kernel
theorem dX10_join_40 : decode cX10_join 40 = .ok (.iload_n 1, 1) := by decide +kernel
theorem dX10_join_41 : decode cX10_join 41 = .ok (.iaload, 1) := by decide +kernel
theorem dX10_join_42 : decode cX10_join 42 = .ok (.aload_n 0, 1) := by decide +kernel
theorem dX10_join_43 : decode cX10_join 43 = .ok (.getfield 82, 3) := by decide +kernel
theorem dX10_join_46 : decode cX10_join 46 = .ok (.iload_n 2, 1) := by decide +kernel
theorem dX10_join_47 : decode cX10_join 47 = .ok (.iaload, 1) := by decide +kernel
theorem dX10_join_48 : decode cX10_join 48 = .ok (.invokestatic 217, 3) := by decide +kernel
theorem dX10_join_51 : decode cX10_join 51 = .ok (.istore_n 3, 1) := by decide +kernel
theorem dX10_join_52 : decode cX10_join 52 = .ok (.aload_n 0, 1) := by decide +kernel
theorem dX10_join_53 : decode cX10_join 53 = .ok (.getfield 82, 3) := by decide +kernel
theorem dX10_join_56 : decode cX10_join 56 = .ok (.iload_n 1, 1) := by decide +kernel
theorem dX10_join_57 : decode cX10_join 57 = .ok (.iaload, 1) := by decide +kernel
theorem dX10_join_58 : decode cX10_join 58 = .ok (.aload_n 0, 1) := by decide +kernel
theorem dX10_join_59 : decode cX10_join 59 = .ok (.getfield 82, 3) := by decide +kernel
theorem dX10_join_62 : decode cX10_join 62 = .ok (.iload_n 2, 1) := by decide +kernel
theorem dX10_join_63 : decode cX10_join 63 = .ok (.iaload, 1) := by decide +kernel
theorem dX10_join_64 : decode cX10_join 64 = .ok (.invokestatic 153, 3) := by decide +kernel
theorem dX10_join_67 : decode cX10_join 67 = .ok (.istore 4, 2) := by decide +kernel
theorem dX10_join_69 : decode cX10_join 69 = .ok (.aload_n 0, 1) := by decide +kernel
theorem dX10_join_70 : decode cX10_join 70 = .ok (.iload_n 3, 1) := by decide +kernel
theorem dX10_join_71 : decode cX10_join 71 = .ok (.invokevirtual 220, 3) := by decide +kernel
theorem dX10_join_74 : decode cX10_join 74 = .ok (.istore 5, 2) := by decide +kernel
theorem dX10_join_76 : decode cX10_join 76 = .ok (.aload_n 0, 1) := by decide +kernel
theorem dX10_join_77 : decode cX10_join 77 = .ok (.iload 4, 2) := by decide +kernel
theorem dX10_join_79 : decode cX10_join 79 = .ok (.invokevirtual 220, 3) := by decide +kernel
theorem dX10_join_82 : decode cX10_join 82 = .ok (.istore 6, 2) := by decide +kernel
theorem dX10_join_84 : decode cX10_join 84 = .ok (.iload_n 3, 1) := by decide +kernel
theorem dX10_join_85 : decode cX10_join 85 = .ok (.iload 4, 2) := by decide +kernel
theorem dX10_join_87 : decode cX10_join 87 = .ok (.if_icmp .eq 35, 3) := by decide +kernel
theorem dX10_join_90 : decode cX10_join 90 = .ok (.aload_n 0, 1) := by decide +kernel
theorem dX10_join_91 : decode cX10_join 91 = .ok (.getfield 76, 3) := by decide +kernel
theorem dX10_join_94 : decode cX10_join 94 = .ok (.iload_n 1, 1) := by decide +kernel
theorem dX10_join_95 : decode cX10_join 95 = .ok (.iaload, 1) := by decide +kernel
theorem dX10_join_96 : decode cX10_join 96 = .ok (.aload_n 0, 1) := by decide +kernel
theorem dX10_join_97 : decode cX10_join 97 = .ok (.getfield 76, 3) := by decide +kernel
theorem dX10_join_100 : decode cX10_join 100 = .ok (.iload_n 2, 1) := by decide +kernel
theorem dX10_join_101 : decode cX10_join 101 = .ok (.iaload, 1) := by decide +kernel
theorem dX10_join_102 : decode cX10_join 102 = .ok (.if_icmp .ne 20, 3) := by decide +kernel
theorem dX10_join_105 : decode cX10_join 105 = .ok (.iload 5, 2) := by decide +kernel
theorem dX10_join_107 : decode cX10_join 107 = .ok (.ifCond .lt 17, 3) := by decide +kernel
theorem dX10_join_110 : decode cX10_join 110 = .ok (.iload 6, 2) := by decide +kernel
theorem dX10_join_112 : decode cX10_join 112 = .ok (.ifCond .lt 12, 3) := by decide +kernel
theorem dX10_join_115 : decode cX10_join 115 = .ok (.iload 5, 2) := by decide +kernel
theorem dX10_join_117 : decode cX10_join 117 = .ok (.iload 6, 2) := by decide +kernel
theorem dX10_join_119 : decode cX10_join 119 = .ok (.if_icmp .eq 5, 3) := by decide +kernel
theorem dX10_join_122 : decode cX10_join 122 = .ok (.iconst 0, 1) := by decide +kernel
theorem dX10_join_123 : decode cX10_join 123 = .ok (.ireturn, 1) := by decide +kernel
theorem dX10_join_124 : decode cX10_join 124 = .ok (.iconst 0, 1) := by decide +kernel
theorem dX10_join_125 : decode cX10_join 125 = .ok (.istore 7, 2) := by decide +kernel
theorem dX10_join_127 : decode cX10_join 127 = .ok (.iload 7, 2) := by decide +kernel
theorem dX10_join_129 : decode cX10_join 129 = .ok (.aload_n 0, 1) := by decide +kernel
theorem dX10_join_130 : decode cX10_join 130 = .ok (.getfield 208, 3) := by decide +kernel
theorem dX10_join_133 : decode cX10_join 133 = .ok (.if_icmp .ge 29, 3) := by decide +kernel
theorem dX10_join_136 : decode cX10_join 136 = .ok (.aload_n 0, 1) := by decide +kernel
theorem dX10_join_137 : decode cX10_join 137 = .ok (.getfield 82, 3) := by decide +kernel
theorem dX10_join_140 : decode cX10_join 140 = .ok (.iload 7, 2) := by decide +kernel
theorem dX10_join_142 : decode cX10_join 142 = .ok (.iaload, 1) := by decide +kernel
theorem dX10_join_143 : decode cX10_join 143 = .ok (.iload 4, 2) := by decide +kernel
theorem dX10_join_145 : decode cX10_join 145 = .ok (.if_icmp .ne 11, 3) := by decide +kernel
theorem dX10_join_148 : decode cX10_join 148 = .ok (.aload_n 0, 1) := by decide +kernel
theorem dX10_join_149 : decode cX10_join 149 = .ok (.getfield 82, 3) := by decide +kernel
theorem dX10_join_152 : decode cX10_join 152 = .ok (.iload 7, 2) := by decide +kernel
theorem dX10_join_154 : decode cX10_join 154 = .ok (.iload_n 3, 1) := by decide +kernel
theorem dX10_join_155 : decode cX10_join 155 = .ok (.iastore, 1) := by decide +kernel
theorem dX10_join_156 : decode cX10_join 156 = .ok (.iinc 7 1, 3) := by decide +kernel
theorem dX10_join_159 : decode cX10_join 159 = .ok (.goto (-32), 3) := by decide +kernel
theorem dX10_join_162 : decode cX10_join 162 = .ok (.iconst 1, 1) := by decide +kernel
theorem dX10_join_163 : decode cX10_join 163 = .ok (.ireturn, 1) := by decide +kernel
set_option maxRecDepth 20000 in
theorem ggX10_vessels_X10_noStamp : GoodIn wsX10_vessels wsX10_noStamp := goodIn_sub (xc (xt1 (xl (xt4 (xt1 (xt1 (xh)))))) (xc (xt1 (xl (xt4 (xt1 (xt1 (xt1 (xh))))))) (xc (xt1 (xl (xt4 (xt4 (xh))))) (xc (xt1 (xl (xt4 (xt1 (xh))))) (xc (xt1 (xl (xt4 (xt4 (xt1 (xh)))))) (xn)))))) (by decide +kernel)
set_option maxRecDepth 20000 in
theorem gX10_vessels_X10_noStamp : GoodIn wsX10_vessels (va_wsS RX10 211 yX10_noStamp wsX10_noStamp) := goodIn_app (goodIn_sub (xc (xt1 (xl (xt1 (xt1 (xt1 (xh)))))) (xc (xt1 (xl (xt4 (xh)))) (xc (xt1 (xl (xt4 (xt1 (xh))))) (xn)))) (by decide +kernel)) ggX10_vessels_X10_noStamp
set_option maxRecDepth 20000 in
theorem ggX10_vessels_X10_throwsIf : GoodIn wsX10_vessels wsX10_throwsIf := goodIn_sub (xc (xt1 (xl (xt4 (xt4 (xt4 (xt1 (xh))))))) (xa (xc (xt1 (xl (xh))) (xn)) (fun _ h => xt1 (xr (h))))) (by decide +kernel)
set_option maxRecDepth 20000 in
theorem gX10_vessels_X10_throwsIf : GoodIn wsX10_vessels (wsV RX10 122 RX10 yX10_throwsIf wsX10_throwsIf) := goodIn_app (goodIn_sub (xc (xt1 (xl (xt4 (xt4 (xt1 (xt1 (xh))))))) (xc (xt1 (xl (xt4 (xt4 (xt1 (xt1 (xt1 (xh)))))))) (xc (xt1 (xl (xt4 (xt4 (xt4 (xh)))))) (xc (xt1 (xl (xt4 (xt1 (xh))))) (xn))))) (by decide +kernel)) ggX10_vessels_X10_throwsIf
set_option maxRecDepth 20000 in
theorem ggX10_vessels_X10_stampOf : GoodIn wsX10_vessels wsX10_stampOf := goodIn_sub (xc (xt1 (xl (xt16 (xt1 (xh))))) (xa (xc (xt1 (xl (xt1 (xh)))) (xc (xt1 (xl (xt1 (xt1 (xh))))) (xc (xt1 (xl (xt16 (xt1 (xt1 (xh)))))) (xn)))) (fun _ h => xt1 (xr (h))))) (by decide +kernel)
set_option maxRecDepth 20000 in
theorem gX10_vessels_X10_stampOf : GoodIn wsX10_vessels (wsV RX10 220 RX10 yX10_stampOf wsX10_stampOf) := goodIn_app (goodIn_sub (xc (xt1 (xl (xt4 (xt4 (xt4 (xt1 (xt1 (xh)))))))) (xc (xt1 (xl (xt4 (xt4 (xt4 (xt1 (xt1 (xt1 (xh))))))))) (xc (xt1 (xl (xt16 (xh)))) (xc (xt1 (xl (xt4 (xt1 (xh))))) (xn))))) (by decide +kernel)) ggX10_vessels_X10_stampOf
theorem dX10_vessels_0 : decode cX10_vessels 0 = .ok (.aload_n 0, 1) := by decide +kernel
theorem dX10_vessels_1 : decode cX10_vessels 1 = .ok (.iconst 0, 1) := by decide +kernel
theorem dX10_vessels_2 : decode cX10_vessels 2 = .ok (.putfield 109, 3) := by decide +kernel
theorem dX10_vessels_5 : decode cX10_vessels 5 = .ok (.aload_n 0, 1) := by decide +kernel
theorem dX10_vessels_6 : decode cX10_vessels 6 = .ok (.iload_n 1, 1) := by decide +kernel
theorem dX10_vessels_7 : decode cX10_vessels 7 = .ok (.iconst (-1), 1) := by decide +kernel
theorem dX10_vessels_8 : decode cX10_vessels 8 = .ok (.if_icmp .eq 14, 3) := by decide +kernel
theorem dX10_vessels_11 : decode cX10_vessels 11 = .ok (.iload_n 1, 1) := by decide +kernel
theorem dX10_vessels_12 : decode cX10_vessels 12 = .ok (.invokestatic 211, 3) := by decide +kernel
theorem dX10_vessels_15 : decode cX10_vessels 15 = .ok (.ifCond .eq 7, 3) := by decide +kernel
theorem dX10_vessels_18 : decode cX10_vessels 18 = .ok (.iconst 1, 1) := by decide +kernel
theorem dX10_vessels_19 : decode cX10_vessels 19 = .ok (.goto 4, 3) := by decide +kernel
theorem dX10_vessels_22 : decode cX10_vessels 22 = .ok (.iconst 0, 1) := by decide +kernel
theorem dX10_vessels_23 : decode cX10_vessels 23 = .ok (.iconst 1, 1) := by decide +kernel
theorem dX10_vessels_24 : decode cX10_vessels 24 = .ok (.invokevirtual 122, 3) := by decide +kernel
theorem dX10_vessels_27 : decode cX10_vessels 27 = .ok (.ifCond .eq 5, 3) := by decide +kernel
theorem dX10_vessels_30 : decode cX10_vessels 30 = .ok (.iconst 0, 1) := by decide +kernel
theorem dX10_vessels_31 : decode cX10_vessels 31 = .ok (.ireturn, 1) := by decide +kernel
theorem dX10_vessels_32 : decode cX10_vessels 32 = .ok (.iconst 0, 1) := by decide +kernel
theorem dX10_vessels_33 : decode cX10_vessels 33 = .ok (.istore_n 2, 1) := by decide +kernel
theorem dX10_vessels_34 : decode cX10_vessels 34 = .ok (.iconst 0, 1) := by decide +kernel
theorem dX10_vessels_35 : decode cX10_vessels 35 = .ok (.istore_n 3, 1) := by decide +kernel
theorem dX10_vessels_36 : decode cX10_vessels 36 = .ok (.iload_n 3, 1) := by decide +kernel
theorem dX10_vessels_37 : decode cX10_vessels 37 = .ok (.aload_n 0, 1) := by decide +kernel
theorem dX10_vessels_38 : decode cX10_vessels 38 = .ok (.getfield 208, 3) := by decide +kernel
theorem dX10_vessels_41 : decode cX10_vessels 41 = .ok (.if_icmp .ge 40, 3) := by decide +kernel
theorem dX10_vessels_44 : decode cX10_vessels 44 = .ok (.iload_n 2, 1) := by decide +kernel
theorem dX10_vessels_45 : decode cX10_vessels 45 = .ok (.aload_n 0, 1) := by decide +kernel
theorem dX10_vessels_46 : decode cX10_vessels 46 = .ok (.getfield 82, 3) := by decide +kernel
theorem dX10_vessels_49 : decode cX10_vessels 49 = .ok (.iload_n 3, 1) := by decide +kernel
theorem dX10_vessels_50 : decode cX10_vessels 50 = .ok (.iaload, 1) := by decide +kernel
theorem dX10_vessels_51 : decode cX10_vessels 51 = .ok (.iload_n 3, 1) := by decide +kernel
theorem dX10_vessels_52 : decode cX10_vessels 52 = .ok (.if_icmp .ne 20, 3) := by decide +kernel
theorem dX10_vessels_55 : decode cX10_vessels 55 = .ok (.iload_n 1, 1) := by decide +kernel
theorem dX10_vessels_56 : decode cX10_vessels 56 = .ok (.ifCond .lt 12, 3) := by decide +kernel
theorem dX10_vessels_59 : decode cX10_vessels 59 = .ok (.aload_n 0, 1) := by decide +kernel
theorem dX10_vessels_60 : decode cX10_vessels 60 = .ok (.iload_n 3, 1) := by decide +kernel
theorem dX10_vessels_61 : decode cX10_vessels 61 = .ok (.invokevirtual 220, 3) := by decide +kernel
theorem dX10_vessels_64 : decode cX10_vessels 64 = .ok (.iload_n 1, 1) := by decide +kernel
theorem dX10_vessels_65 : decode cX10_vessels 65 = .ok (.if_icmp .ne 7, 3) := by decide +kernel
theorem dX10_vessels_68 : decode cX10_vessels 68 = .ok (.iconst 1, 1) := by decide +kernel
theorem dX10_vessels_69 : decode cX10_vessels 69 = .ok (.goto 4, 3) := by decide +kernel
theorem dX10_vessels_72 : decode cX10_vessels 72 = .ok (.iconst 0, 1) := by decide +kernel
theorem dX10_vessels_73 : decode cX10_vessels 73 = .ok (.iadd, 1) := by decide +kernel
theorem dX10_vessels_74 : decode cX10_vessels 74 = .ok (.istore_n 2, 1) := by decide +kernel
theorem dX10_vessels_75 : decode cX10_vessels 75 = .ok (.iinc 3 1, 3) := by decide +kernel
theorem dX10_vessels_78 : decode cX10_vessels 78 = .ok (.goto (-42), 3) := by decide +kernel
theorem dX10_vessels_81 : decode cX10_vessels 81 = .ok (.iload_n 2, 1) := by decide +kernel
theorem dX10_vessels_82 : decode cX10_vessels 82 = .ok (.ireturn, 1) := by decide +kernel
set_option maxRecDepth 20000 in
theorem ggX10_vessel_X10_noSherd : GoodIn wsX10_vessel wsX10_noSherd := goodIn_sub (xc (xt1 (xl (xt4 (xt1 (xt1 (xt1 (xh))))))) (xa (xc (xt1 (xl (xt1 (xh)))) (xc (xt1 (xl (xt4 (xt4 (xh))))) (xc (xt1 (xl (xt4 (xt4 (xt1 (xh)))))) (xc (xt1 (xl (xt4 (xt1 (xt1 (xh)))))) (xc (xt1 (xl (xt4 (xt4 (xt1 (xt1 (xh))))))) (xn)))))) (fun _ h => xt1 (xr (h))))) (by decide +kernel)
set_option maxRecDepth 20000 in
theorem gX10_vessel_X10_noSherd : GoodIn wsX10_vessel (wsV RX10 214 RX10 yX10_noSherd wsX10_noSherd) := goodIn_app (goodIn_sub (xc (xt1 (xl (xt1 (xt1 (xt1 (xh)))))) (xc (xt1 (xl (xt4 (xh)))) (xc (xt1 (xl (xt4 (xt1 (xh))))) (xc (xt1 (xl (xt4 (xt1 (xt1 (xh)))))) (xn))))) (by decide +kernel)) ggX10_vessel_X10_noSherd
set_option maxRecDepth 20000 in
theorem ggX10_vessel_X10_throwsIf : GoodIn wsX10_vessel wsX10_throwsIf := goodIn_sub (xc (xt1 (xl (xt4 (xt4 (xt4 (xt1 (xt1 (xh)))))))) (xa (xc (xt1 (xl (xh))) (xn)) (fun _ h => xt1 (xr (h))))) (by decide +kernel)
set_option maxRecDepth 20000 in
theorem gX10_vessel_X10_throwsIf : GoodIn wsX10_vessel (wsV RX10 122 RX10 yX10_throwsIf wsX10_throwsIf) := goodIn_app (goodIn_sub (xc (xt1 (xl (xt4 (xt4 (xt1 (xt1 (xt1 (xh)))))))) (xc (xt1 (xl (xt4 (xt4 (xt4 (xh)))))) (xc (xt1 (xl (xt4 (xt4 (xt4 (xt1 (xh))))))) (xc (xt1 (xl (xt4 (xt1 (xt1 (xh)))))) (xn))))) (by decide +kernel)) ggX10_vessel_X10_throwsIf
set_option maxRecDepth 20000 in
theorem ggX10_vessel_X10_stampOf : GoodIn wsX10_vessel wsX10_stampOf := goodIn_sub (xc (xt1 (xl (xt16 (xt1 (xt1 (xh)))))) (xa (xc (xt1 (xl (xt1 (xh)))) (xc (xt1 (xl (xt1 (xt1 (xh))))) (xc (xt1 (xl (xt16 (xt1 (xt1 (xt1 (xh))))))) (xn)))) (fun _ h => xt1 (xr (h))))) (by decide +kernel)
set_option maxRecDepth 20000 in
theorem gX10_vessel_X10_stampOf : GoodIn wsX10_vessel (wsV RX10 220 RX10 yX10_stampOf wsX10_stampOf) := goodIn_app (goodIn_sub (xc (xt1 (xl (xt4 (xt4 (xt4 (xt1 (xt1 (xt1 (xh))))))))) (xc (xt1 (xl (xt16 (xh)))) (xc (xt1 (xl (xt16 (xt1 (xh))))) (xc (xt1 (xl (xt4 (xt1 (xt1 (xh)))))) (xn))))) (by decide +kernel)) ggX10_vessel_X10_stampOf
theorem dX10_vessel_0 : decode cX10_vessel 0 = .ok (.aload_n 0, 1) := by decide +kernel
theorem dX10_vessel_1 : decode cX10_vessel 1 = .ok (.iconst 0, 1) := by decide +kernel
theorem dX10_vessel_2 : decode cX10_vessel 2 = .ok (.putfield 109, 3) := by decide +kernel
theorem dX10_vessel_5 : decode cX10_vessel 5 = .ok (.aload_n 0, 1) := by decide +kernel
theorem dX10_vessel_6 : decode cX10_vessel 6 = .ok (.aload_n 0, 1) := by decide +kernel
theorem dX10_vessel_7 : decode cX10_vessel 7 = .ok (.iload_n 1, 1) := by decide +kernel
theorem dX10_vessel_8 : decode cX10_vessel 8 = .ok (.invokevirtual 214, 3) := by decide +kernel
theorem dX10_vessel_11 : decode cX10_vessel 11 = .ok (.iconst 1, 1) := by decide +kernel
theorem dX10_vessel_12 : decode cX10_vessel 12 = .ok (.invokevirtual 122, 3) := by decide +kernel
theorem dX10_vessel_15 : decode cX10_vessel 15 = .ok (.ifCond .eq 5, 3) := by decide +kernel
theorem dX10_vessel_18 : decode cX10_vessel 18 = .ok (.iconst 0, 1) := by decide +kernel
theorem dX10_vessel_19 : decode cX10_vessel 19 = .ok (.ireturn, 1) := by decide +kernel
theorem dX10_vessel_20 : decode cX10_vessel 20 = .ok (.iload_n 2, 1) := by decide +kernel
theorem dX10_vessel_21 : decode cX10_vessel 21 = .ok (.tableswitch 91 0 2 #[27, 73, 84], 27) := by decide +kernel
theorem dX10_vessel_48 : decode cX10_vessel 48 = .ok (.iconst 0, 1) := by decide +kernel
theorem dX10_vessel_49 : decode cX10_vessel 49 = .ok (.istore_n 3, 1) := by decide +kernel
theorem dX10_vessel_50 : decode cX10_vessel 50 = .ok (.iconst 0, 1) := by decide +kernel
theorem dX10_vessel_51 : decode cX10_vessel 51 = .ok (.istore 4, 2) := by decide +kernel
theorem dX10_vessel_53 : decode cX10_vessel 53 = .ok (.iload 4, 2) := by decide +kernel
theorem dX10_vessel_55 : decode cX10_vessel 55 = .ok (.aload_n 0, 1) := by decide +kernel
theorem dX10_vessel_56 : decode cX10_vessel 56 = .ok (.getfield 208, 3) := by decide +kernel
theorem dX10_vessel_59 : decode cX10_vessel 59 = .ok (.if_icmp .ge 33, 3) := by decide +kernel
theorem dX10_vessel_62 : decode cX10_vessel 62 = .ok (.iload_n 3, 1) := by decide +kernel
theorem dX10_vessel_63 : decode cX10_vessel 63 = .ok (.aload_n 0, 1) := by decide +kernel
theorem dX10_vessel_64 : decode cX10_vessel 64 = .ok (.getfield 82, 3) := by decide +kernel
theorem dX10_vessel_67 : decode cX10_vessel 67 = .ok (.iload 4, 2) := by decide +kernel
theorem dX10_vessel_69 : decode cX10_vessel 69 = .ok (.iaload, 1) := by decide +kernel
theorem dX10_vessel_70 : decode cX10_vessel 70 = .ok (.aload_n 0, 1) := by decide +kernel
theorem dX10_vessel_71 : decode cX10_vessel 71 = .ok (.getfield 82, 3) := by decide +kernel
theorem dX10_vessel_74 : decode cX10_vessel 74 = .ok (.iload_n 1, 1) := by decide +kernel
theorem dX10_vessel_75 : decode cX10_vessel 75 = .ok (.iaload, 1) := by decide +kernel
theorem dX10_vessel_76 : decode cX10_vessel 76 = .ok (.if_icmp .ne 7, 3) := by decide +kernel
theorem dX10_vessel_79 : decode cX10_vessel 79 = .ok (.iconst 1, 1) := by decide +kernel
theorem dX10_vessel_80 : decode cX10_vessel 80 = .ok (.goto 4, 3) := by decide +kernel
theorem dX10_vessel_83 : decode cX10_vessel 83 = .ok (.iconst 0, 1) := by decide +kernel
theorem dX10_vessel_84 : decode cX10_vessel 84 = .ok (.iadd, 1) := by decide +kernel
theorem dX10_vessel_85 : decode cX10_vessel 85 = .ok (.istore_n 3, 1) := by decide +kernel
theorem dX10_vessel_86 : decode cX10_vessel 86 = .ok (.iinc 4 1, 3) := by decide +kernel
theorem dX10_vessel_89 : decode cX10_vessel 89 = .ok (.goto (-36), 3) := by decide +kernel
theorem dX10_vessel_92 : decode cX10_vessel 92 = .ok (.iload_n 3, 1) := by decide +kernel
theorem dX10_vessel_93 : decode cX10_vessel 93 = .ok (.ireturn, 1) := by decide +kernel
theorem dX10_vessel_94 : decode cX10_vessel 94 = .ok (.aload_n 0, 1) := by decide +kernel
theorem dX10_vessel_95 : decode cX10_vessel 95 = .ok (.aload_n 0, 1) := by decide +kernel
theorem dX10_vessel_96 : decode cX10_vessel 96 = .ok (.getfield 82, 3) := by decide +kernel
theorem dX10_vessel_99 : decode cX10_vessel 99 = .ok (.iload_n 1, 1) := by decide +kernel
theorem dX10_vessel_100 : decode cX10_vessel 100 = .ok (.iaload, 1) := by decide +kernel
theorem dX10_vessel_101 : decode cX10_vessel 101 = .ok (.invokevirtual 220, 3) := by decide +kernel
theorem dX10_vessel_104 : decode cX10_vessel 104 = .ok (.ireturn, 1) := by decide +kernel
theorem dX10_vessel_105 : decode cX10_vessel 105 = .ok (.aload_n 0, 1) := by decide +kernel
theorem dX10_vessel_106 : decode cX10_vessel 106 = .ok (.getfield 82, 3) := by decide +kernel
theorem dX10_vessel_109 : decode cX10_vessel 109 = .ok (.iload_n 1, 1) := by decide +kernel
theorem dX10_vessel_110 : decode cX10_vessel 110 = .ok (.iaload, 1) := by decide +kernel
theorem dX10_vessel_111 : decode cX10_vessel 111 = .ok (.ireturn, 1) := by decide +kernel
theorem dX10_vessel_112 : decode cX10_vessel 112 = .ok (.aload_n 0, 1) := by decide +kernel
theorem dX10_vessel_113 : decode cX10_vessel 113 = .ok (.iconst 2, 1) := by decide +kernel
theorem dX10_vessel_114 : decode cX10_vessel 114 = .ok (.putfield 109, 3) := by decide +kernel
theorem dX10_vessel_117 : decode cX10_vessel 117 = .ok (.iconst 0, 1) := by decide +kernel
theorem dX10_vessel_118 : decode cX10_vessel 118 = .ok (.ireturn, 1) := by decide +kernel
set_option maxRecDepth 20000 in
theorem ggX10_tells_X10_throwsIf : GoodIn wsX10_tells wsX10_throwsIf := goodIn_sub (xc (xt1 (xl (xt4 (xt4 (xt1 (xt1 (xt1 (xh)))))))) (xa (xc (xt1 (xl (xt4 (xt4 (xt4 (xh)))))) (xn)) (fun _ h => xt1 (xr (h))))) (by decide +kernel)
set_option maxRecDepth 20000 in
theorem gX10_tells_X10_throwsIf : GoodIn wsX10_tells (wsV RX10 122 RX10 yX10_throwsIf wsX10_throwsIf) := goodIn_app (goodIn_sub (xc (xt1 (xl (xt4 (xt1 (xt1 (xt1 (xh))))))) (xc (xt1 (xl (xt4 (xt4 (xh))))) (xc (xt1 (xl (xt4 (xt4 (xt1 (xh)))))) (xc (xt1 (xl (xt4 (xt4 (xt1 (xt1 (xh))))))) (xn))))) (by decide +kernel)) ggX10_tells_X10_throwsIf
theorem dX10_tells_0 : decode cX10_tells 0 = .ok (.aload_n 0, 1) := by decide +kernel
theorem dX10_tells_1 : decode cX10_tells 1 = .ok (.aload_n 0, 1) := by decide +kernel
theorem dX10_tells_2 : decode cX10_tells 2 = .ok (.getfield 223, 3) := by decide +kernel
theorem dX10_tells_5 : decode cX10_tells 5 = .ok (.bipush 60, 2) := by decide +kernel
theorem dX10_tells_7 : decode cX10_tells 7 = .ok (.if_icmp .ne 7, 3) := by decide +kernel
theorem dX10_tells_10 : decode cX10_tells 10 = .ok (.iconst 1, 1) := by decide +kernel
theorem dX10_tells_11 : decode cX10_tells 11 = .ok (.goto 4, 3) := by decide +kernel
theorem dX10_tells_14 : decode cX10_tells 14 = .ok (.iconst 0, 1) := by decide +kernel
theorem dX10_tells_15 : decode cX10_tells 15 = .ok (.iconst 3, 1) := by decide +kernel
theorem dX10_tells_16 : decode cX10_tells 16 = .ok (.invokevirtual 122, 3) := by decide +kernel
theorem dX10_tells_19 : decode cX10_tells 19 = .ok (.ifCond .eq 5, 3) := by decide +kernel
theorem dX10_tells_22 : decode cX10_tells 22 = .ok (.iconst 0, 1) := by decide +kernel
theorem dX10_tells_23 : decode cX10_tells 23 = .ok (.ireturn, 1) := by decide +kernel
theorem dX10_tells_24 : decode cX10_tells 24 = .ok (.aload_n 0, 1) := by decide +kernel
theorem dX10_tells_25 : decode cX10_tells 25 = .ok (.getfield 85, 3) := by decide +kernel
theorem dX10_tells_28 : decode cX10_tells 28 = .ok (.aload_n 0, 1) := by decide +kernel
theorem dX10_tells_29 : decode cX10_tells 29 = .ok (.getfield 223, 3) := by decide +kernel
theorem dX10_tells_32 : decode cX10_tells 32 = .ok (.iload_n 1, 1) := by decide +kernel
theorem dX10_tells_33 : decode cX10_tells 33 = .ok (.iastore, 1) := by decide +kernel
theorem dX10_tells_34 : decode cX10_tells 34 = .ok (.aload_n 0, 1) := by decide +kernel
theorem dX10_tells_35 : decode cX10_tells 35 = .ok (.getfield 88, 3) := by decide +kernel
theorem dX10_tells_38 : decode cX10_tells 38 = .ok (.aload_n 0, 1) := by decide +kernel
theorem dX10_tells_39 : decode cX10_tells 39 = .ok (.getfield 223, 3) := by decide +kernel
theorem dX10_tells_42 : decode cX10_tells 42 = .ok (.iload_n 2, 1) := by decide +kernel
theorem dX10_tells_43 : decode cX10_tells 43 = .ok (.iastore, 1) := by decide +kernel
theorem dX10_tells_44 : decode cX10_tells 44 = .ok (.aload_n 0, 1) := by decide +kernel
theorem dX10_tells_45 : decode cX10_tells 45 = .ok (.getfield 91, 3) := by decide +kernel
theorem dX10_tells_48 : decode cX10_tells 48 = .ok (.aload_n 0, 1) := by decide +kernel
theorem dX10_tells_49 : decode cX10_tells 49 = .ok (.getfield 223, 3) := by decide +kernel
theorem dX10_tells_52 : decode cX10_tells 52 = .ok (.iload_n 3, 1) := by decide +kernel
theorem dX10_tells_53 : decode cX10_tells 53 = .ok (.iastore, 1) := by decide +kernel
theorem dX10_tells_54 : decode cX10_tells 54 = .ok (.aload_n 0, 1) := by decide +kernel
theorem dX10_tells_55 : decode cX10_tells 55 = .ok (.getfield 94, 3) := by decide +kernel
theorem dX10_tells_58 : decode cX10_tells 58 = .ok (.aload_n 0, 1) := by decide +kernel
theorem dX10_tells_59 : decode cX10_tells 59 = .ok (.getfield 223, 3) := by decide +kernel
theorem dX10_tells_62 : decode cX10_tells 62 = .ok (.aload_n 0, 1) := by decide +kernel
theorem dX10_tells_63 : decode cX10_tells 63 = .ok (.getfield 226, 3) := by decide +kernel
theorem dX10_tells_66 : decode cX10_tells 66 = .ok (.iastore, 1) := by decide +kernel
theorem dX10_tells_67 : decode cX10_tells 67 = .ok (.aload_n 0, 1) := by decide +kernel
theorem dX10_tells_68 : decode cX10_tells 68 = .ok (.getfield 97, 3) := by decide +kernel
theorem dX10_tells_71 : decode cX10_tells 71 = .ok (.aload_n 0, 1) := by decide +kernel
theorem dX10_tells_72 : decode cX10_tells 72 = .ok (.getfield 223, 3) := by decide +kernel
theorem dX10_tells_75 : decode cX10_tells 75 = .ok (.iconst (-1), 1) := by decide +kernel
theorem dX10_tells_76 : decode cX10_tells 76 = .ok (.iastore, 1) := by decide +kernel
theorem dX10_tells_77 : decode cX10_tells 77 = .ok (.aload_n 0, 1) := by decide +kernel
theorem dX10_tells_78 : decode cX10_tells 78 = .ok (.dup, 1) := by decide +kernel
theorem dX10_tells_79 : decode cX10_tells 79 = .ok (.getfield 223, 3) := by decide +kernel
theorem dX10_tells_82 : decode cX10_tells 82 = .ok (.iconst 1, 1) := by decide +kernel
theorem dX10_tells_83 : decode cX10_tells 83 = .ok (.iadd, 1) := by decide +kernel
theorem dX10_tells_84 : decode cX10_tells 84 = .ok (.putfield 223, 3) := by decide +kernel
theorem dX10_tells_87 : decode cX10_tells 87 = .ok (.aload_n 0, 1) := by decide +kernel
theorem dX10_tells_88 : decode cX10_tells 88 = .ok (.getfield 223, 3) := by decide +kernel
theorem dX10_tells_91 : decode cX10_tells 91 = .ok (.iconst 1, 1) := by decide +kernel
theorem dX10_tells_92 : decode cX10_tells 92 = .ok (.isub, 1) := by decide +kernel
theorem dX10_tells_93 : decode cX10_tells 93 = .ok (.ireturn, 1) := by decide +kernel
set_option maxRecDepth 20000 in
theorem ggX10_tell_X10_noStamp : GoodIn wsX10_tell wsX10_noStamp := goodIn_sub (xc (xt1 (xl (xt4 (xh)))) (xc (xt1 (xl (xt4 (xt1 (xh))))) (xc (xt1 (xl (xt4 (xt1 (xt1 (xh)))))) (xc (xt1 (xl (xt1 (xt1 (xt1 (xh)))))) (xc (xt1 (xl (xt4 (xt1 (xt1 (xt1 (xh))))))) (xn)))))) (by decide +kernel)
set_option maxRecDepth 20000 in
theorem gX10_tell_X10_noStamp : GoodIn wsX10_tell (va_wsS RX10 211 yX10_noStamp wsX10_noStamp) := goodIn_app (goodIn_sub (xc (xt1 (xl (xt1 (xh)))) (xc (xt1 (xl (xt1 (xt1 (xh))))) (xc (xt1 (xl (xt1 (xt1 (xt1 (xh)))))) (xn)))) (by decide +kernel)) ggX10_tell_X10_noStamp
set_option maxRecDepth 20000 in
theorem ggX10_tell_X10_throwsIf : GoodIn wsX10_tell wsX10_throwsIf := goodIn_sub (xc (xt1 (xl (xt4 (xt4 (xt1 (xt1 (xt1 (xh)))))))) (xa (xc (xt1 (xl (xh))) (xn)) (fun _ h => xt1 (xr (h))))) (by decide +kernel)
set_option maxRecDepth 20000 in
theorem gX10_tell_X10_throwsIf : GoodIn wsX10_tell (wsV RX10 122 RX10 yX10_throwsIf wsX10_throwsIf) := goodIn_app (goodIn_sub (xc (xt1 (xl (xt4 (xt4 (xh))))) (xc (xt1 (xl (xt4 (xt4 (xt1 (xh)))))) (xc (xt1 (xl (xt4 (xt4 (xt1 (xt1 (xh))))))) (xc (xt1 (xl (xt1 (xt1 (xt1 (xh)))))) (xn))))) (by decide +kernel)) ggX10_tell_X10_throwsIf
set_option maxRecDepth 20000 in
theorem ggX10_tell_X10_in : GoodIn wsX10_tell wsX10_in := goodIn_sub (xc (xt1 (xl (xt4 (xt1 (xt1 (xt1 (xh))))))) (xn)) (by decide +kernel)
set_option maxRecDepth 20000 in
theorem gX10_tell_X10_in : GoodIn wsX10_tell (va_wsS RX10 115 yX10_in wsX10_in) := goodIn_app (goodIn_sub (xc (xt1 (xl (xt4 (xt1 (xh))))) (xc (xt1 (xl (xt4 (xt1 (xt1 (xh)))))) (xc (xt1 (xl (xt1 (xt1 (xt1 (xh)))))) (xn)))) (by decide +kernel)) ggX10_tell_X10_in
set_option maxRecDepth 20000 in
theorem ggX10_tell_X10_tells : GoodIn wsX10_tell wsX10_tells := goodIn_sub (xc (xt1 (xl (xt4 (xt4 (xt4 (xt1 (xt1 (xt1 (xh))))))))) (xa (xc (xt1 (xl (xt16 (xh)))) (xc (xt1 (xl (xt16 (xt1 (xh))))) (xc (xt1 (xl (xt16 (xt1 (xt1 (xh)))))) (xc (xt1 (xl (xt16 (xt1 (xt1 (xt1 (xh))))))) (xc (xt1 (xl (xt16 (xt4 (xh))))) (xc (xt1 (xl (xt16 (xt4 (xt1 (xh)))))) (xc (xt1 (xl (xt16 (xt4 (xt1 (xt1 (xh))))))) (xc (xt1 (xl (xt4 (xt4 (xh))))) (xc (xt1 (xl (xt4 (xt4 (xt1 (xh)))))) (xc (xt1 (xl (xt4 (xt4 (xt1 (xt1 (xh))))))) (xc (xt1 (xl (xt1 (xt1 (xt1 (xh)))))) (xc (xt1 (xl (xt4 (xt4 (xt1 (xt1 (xt1 (xh)))))))) (xc (xt1 (xl (xh))) (xn)))))))))))))) (fun _ h => xt1 (xr (h))))) (by decide +kernel)
set_option maxRecDepth 20000 in
theorem gX10_tell_X10_tells : GoodIn wsX10_tell (wsV RX10 229 RX10 yX10_tells wsX10_tells) := goodIn_app (goodIn_sub (xc (xt1 (xl (xt4 (xt4 (xt4 (xh)))))) (xc (xt1 (xl (xt4 (xt4 (xt4 (xt1 (xh))))))) (xc (xt1 (xl (xt4 (xt4 (xt4 (xt1 (xt1 (xh)))))))) (xc (xt1 (xl (xt1 (xt1 (xt1 (xh)))))) (xn))))) (by decide +kernel)) ggX10_tell_X10_tells
theorem dX10_tell_0 : decode cX10_tell 0 = .ok (.aload_n 0, 1) := by decide +kernel
theorem dX10_tell_1 : decode cX10_tell 1 = .ok (.iconst 0, 1) := by decide +kernel
theorem dX10_tell_2 : decode cX10_tell 2 = .ok (.putfield 109, 3) := by decide +kernel
theorem dX10_tell_5 : decode cX10_tell 5 = .ok (.aload_n 0, 1) := by decide +kernel
theorem dX10_tell_6 : decode cX10_tell 6 = .ok (.iload_n 1, 1) := by decide +kernel
theorem dX10_tell_7 : decode cX10_tell 7 = .ok (.invokestatic 211, 3) := by decide +kernel
theorem dX10_tell_10 : decode cX10_tell 10 = .ok (.ifCond .ne 10, 3) := by decide +kernel
theorem dX10_tell_13 : decode cX10_tell 13 = .ok (.iload_n 2, 1) := by decide +kernel
theorem dX10_tell_14 : decode cX10_tell 14 = .ok (.invokestatic 211, 3) := by decide +kernel
theorem dX10_tell_17 : decode cX10_tell 17 = .ok (.ifCond .eq 7, 3) := by decide +kernel
theorem dX10_tell_20 : decode cX10_tell 20 = .ok (.iconst 1, 1) := by decide +kernel
theorem dX10_tell_21 : decode cX10_tell 21 = .ok (.goto 4, 3) := by decide +kernel
theorem dX10_tell_24 : decode cX10_tell 24 = .ok (.iconst 0, 1) := by decide +kernel
theorem dX10_tell_25 : decode cX10_tell 25 = .ok (.iconst 1, 1) := by decide +kernel
theorem dX10_tell_26 : decode cX10_tell 26 = .ok (.invokevirtual 122, 3) := by decide +kernel
theorem dX10_tell_29 : decode cX10_tell 29 = .ok (.ifCond .ne 34, 3) := by decide +kernel
theorem dX10_tell_32 : decode cX10_tell 32 = .ok (.aload_n 0, 1) := by decide +kernel
theorem dX10_tell_33 : decode cX10_tell 33 = .ok (.iload_n 1, 1) := by decide +kernel
theorem dX10_tell_34 : decode cX10_tell 34 = .ok (.iload_n 2, 1) := by decide +kernel
theorem dX10_tell_35 : decode cX10_tell 35 = .ok (.if_icmp .eq 16, 3) := by decide +kernel
theorem dX10_tell_38 : decode cX10_tell 38 = .ok (.iload_n 3, 1) := by decide +kernel
theorem dX10_tell_39 : decode cX10_tell 39 = .ok (.sipush (-500), 3) := by decide +kernel
theorem dX10_tell_42 : decode cX10_tell 42 = .ok (.sipush 500, 3) := by decide +kernel
theorem dX10_tell_45 : decode cX10_tell 45 = .ok (.invokestatic 115, 3) := by decide +kernel
theorem dX10_tell_48 : decode cX10_tell 48 = .ok (.ifCond .ne 7, 3) := by decide +kernel
theorem dX10_tell_51 : decode cX10_tell 51 = .ok (.iconst 1, 1) := by decide +kernel
theorem dX10_tell_52 : decode cX10_tell 52 = .ok (.goto 4, 3) := by decide +kernel
theorem dX10_tell_55 : decode cX10_tell 55 = .ok (.iconst 0, 1) := by decide +kernel
theorem dX10_tell_56 : decode cX10_tell 56 = .ok (.iconst 2, 1) := by decide +kernel
theorem dX10_tell_57 : decode cX10_tell 57 = .ok (.invokevirtual 122, 3) := by decide +kernel
theorem dX10_tell_60 : decode cX10_tell 60 = .ok (.ifCond .eq 5, 3) := by decide +kernel
theorem dX10_tell_63 : decode cX10_tell 63 = .ok (.iconst 0, 1) := by decide +kernel
theorem dX10_tell_64 : decode cX10_tell 64 = .ok (.ireturn, 1) := by decide +kernel
theorem dX10_tell_65 : decode cX10_tell 65 = .ok (.aload_n 0, 1) := by decide +kernel
theorem dX10_tell_66 : decode cX10_tell 66 = .ok (.iload_n 1, 1) := by decide +kernel
theorem dX10_tell_67 : decode cX10_tell 67 = .ok (.iload_n 2, 1) := by decide +kernel
theorem dX10_tell_68 : decode cX10_tell 68 = .ok (.iload_n 3, 1) := by decide +kernel
theorem dX10_tell_69 : decode cX10_tell 69 = .ok (.invokevirtual 229, 3) := by decide +kernel
theorem dX10_tell_72 : decode cX10_tell 72 = .ok (.ireturn, 1) := by decide +kernel
set_option maxRecDepth 20000 in
theorem ggX10_bound_X10_noStamp : GoodIn wsX10_bound wsX10_noStamp := goodIn_sub (xc (xt1 (xl (xt4 (xh)))) (xc (xt1 (xl (xt4 (xt1 (xh))))) (xc (xt1 (xl (xt4 (xt1 (xt1 (xh)))))) (xc (xt1 (xl (xt1 (xt1 (xt1 (xh)))))) (xc (xt1 (xl (xt4 (xt1 (xt1 (xt1 (xh))))))) (xn)))))) (by decide +kernel)
set_option maxRecDepth 20000 in
theorem gX10_bound_X10_noStamp : GoodIn wsX10_bound (va_wsS RX10 211 yX10_noStamp wsX10_noStamp) := goodIn_app (goodIn_sub (xc (xt1 (xl (xt1 (xh)))) (xc (xt1 (xl (xt1 (xt1 (xh))))) (xc (xt1 (xl (xt1 (xt1 (xt1 (xh)))))) (xn)))) (by decide +kernel)) ggX10_bound_X10_noStamp
set_option maxRecDepth 20000 in
theorem ggX10_bound_X10_throwsIf : GoodIn wsX10_bound wsX10_throwsIf := goodIn_sub (xc (xt1 (xl (xt4 (xt4 (xt1 (xt1 (xt1 (xh)))))))) (xa (xc (xt1 (xl (xh))) (xn)) (fun _ h => xt1 (xr (h))))) (by decide +kernel)
set_option maxRecDepth 20000 in
theorem gX10_bound_X10_throwsIf : GoodIn wsX10_bound (wsV RX10 122 RX10 yX10_throwsIf wsX10_throwsIf) := goodIn_app (goodIn_sub (xc (xt1 (xl (xt4 (xt4 (xh))))) (xc (xt1 (xl (xt4 (xt4 (xt1 (xh)))))) (xc (xt1 (xl (xt4 (xt4 (xt1 (xt1 (xh))))))) (xc (xt1 (xl (xt1 (xt1 (xt1 (xh)))))) (xn))))) (by decide +kernel)) ggX10_bound_X10_throwsIf
set_option maxRecDepth 20000 in
theorem ggX10_bound_X10_in : GoodIn wsX10_bound wsX10_in := goodIn_sub (xc (xt1 (xl (xt4 (xt1 (xt1 (xt1 (xh))))))) (xn)) (by decide +kernel)
set_option maxRecDepth 20000 in
theorem gX10_bound_X10_in : GoodIn wsX10_bound (va_wsS RX10 115 yX10_in wsX10_in) := goodIn_app (goodIn_sub (xc (xt1 (xl (xt4 (xt1 (xh))))) (xc (xt1 (xl (xt4 (xt1 (xt1 (xh)))))) (xc (xt1 (xl (xt1 (xt1 (xt1 (xh)))))) (xn)))) (by decide +kernel)) ggX10_bound_X10_in
set_option maxRecDepth 20000 in
theorem ggX10_bound_X10_tells : GoodIn wsX10_bound wsX10_tells := goodIn_sub (xc (xt1 (xl (xt4 (xt4 (xt4 (xt1 (xt1 (xt1 (xh))))))))) (xa (xc (xt1 (xl (xt16 (xh)))) (xc (xt1 (xl (xt16 (xt1 (xh))))) (xc (xt1 (xl (xt16 (xt1 (xt1 (xh)))))) (xc (xt1 (xl (xt16 (xt1 (xt1 (xt1 (xh))))))) (xc (xt1 (xl (xt16 (xt4 (xh))))) (xc (xt1 (xl (xt16 (xt4 (xt1 (xh)))))) (xc (xt1 (xl (xt16 (xt4 (xt1 (xt1 (xh))))))) (xc (xt1 (xl (xt4 (xt4 (xh))))) (xc (xt1 (xl (xt4 (xt4 (xt1 (xh)))))) (xc (xt1 (xl (xt4 (xt4 (xt1 (xt1 (xh))))))) (xc (xt1 (xl (xt1 (xt1 (xt1 (xh)))))) (xc (xt1 (xl (xt4 (xt4 (xt1 (xt1 (xt1 (xh)))))))) (xc (xt1 (xl (xh))) (xn)))))))))))))) (fun _ h => xt1 (xr (h))))) (by decide +kernel)
set_option maxRecDepth 20000 in
theorem gX10_bound_X10_tells : GoodIn wsX10_bound (wsV RX10 229 RX10 yX10_tells wsX10_tells) := goodIn_app (goodIn_sub (xc (xt1 (xl (xt4 (xt4 (xt4 (xh)))))) (xc (xt1 (xl (xt4 (xt4 (xt4 (xt1 (xh))))))) (xc (xt1 (xl (xt4 (xt4 (xt4 (xt1 (xt1 (xh)))))))) (xc (xt1 (xl (xt1 (xt1 (xt1 (xh)))))) (xn))))) (by decide +kernel)) ggX10_bound_X10_tells
theorem dX10_bound_0 : decode cX10_bound 0 = .ok (.aload_n 0, 1) := by decide +kernel
theorem dX10_bound_1 : decode cX10_bound 1 = .ok (.iconst 0, 1) := by decide +kernel
theorem dX10_bound_2 : decode cX10_bound 2 = .ok (.putfield 109, 3) := by decide +kernel
theorem dX10_bound_5 : decode cX10_bound 5 = .ok (.aload_n 0, 1) := by decide +kernel
theorem dX10_bound_6 : decode cX10_bound 6 = .ok (.iload_n 1, 1) := by decide +kernel
theorem dX10_bound_7 : decode cX10_bound 7 = .ok (.invokestatic 211, 3) := by decide +kernel
theorem dX10_bound_10 : decode cX10_bound 10 = .ok (.iconst 1, 1) := by decide +kernel
theorem dX10_bound_11 : decode cX10_bound 11 = .ok (.invokevirtual 122, 3) := by decide +kernel
theorem dX10_bound_14 : decode cX10_bound 14 = .ok (.ifCond .ne 27, 3) := by decide +kernel
theorem dX10_bound_17 : decode cX10_bound 17 = .ok (.aload_n 0, 1) := by decide +kernel
theorem dX10_bound_18 : decode cX10_bound 18 = .ok (.iload_n 2, 1) := by decide +kernel
theorem dX10_bound_19 : decode cX10_bound 19 = .ok (.iconst 0, 1) := by decide +kernel
theorem dX10_bound_20 : decode cX10_bound 20 = .ok (.sipush 1000, 3) := by decide +kernel
theorem dX10_bound_23 : decode cX10_bound 23 = .ok (.invokestatic 115, 3) := by decide +kernel
theorem dX10_bound_26 : decode cX10_bound 26 = .ok (.ifCond .ne 7, 3) := by decide +kernel
theorem dX10_bound_29 : decode cX10_bound 29 = .ok (.iconst 1, 1) := by decide +kernel
theorem dX10_bound_30 : decode cX10_bound 30 = .ok (.goto 4, 3) := by decide +kernel
theorem dX10_bound_33 : decode cX10_bound 33 = .ok (.iconst 0, 1) := by decide +kernel
theorem dX10_bound_34 : decode cX10_bound 34 = .ok (.iconst 2, 1) := by decide +kernel
theorem dX10_bound_35 : decode cX10_bound 35 = .ok (.invokevirtual 122, 3) := by decide +kernel
theorem dX10_bound_38 : decode cX10_bound 38 = .ok (.ifCond .eq 5, 3) := by decide +kernel
theorem dX10_bound_41 : decode cX10_bound 41 = .ok (.iconst 0, 1) := by decide +kernel
theorem dX10_bound_42 : decode cX10_bound 42 = .ok (.ireturn, 1) := by decide +kernel
theorem dX10_bound_43 : decode cX10_bound 43 = .ok (.iload_n 3, 1) := by decide +kernel
theorem dX10_bound_44 : decode cX10_bound 44 = .ok (.ifCond .eq 15, 3) := by decide +kernel
theorem dX10_bound_47 : decode cX10_bound 47 = .ok (.aload_n 0, 1) := by decide +kernel
theorem dX10_bound_48 : decode cX10_bound 48 = .ok (.iload_n 1, 1) := by decide +kernel
theorem dX10_bound_49 : decode cX10_bound 49 = .ok (.bipush 12, 2) := by decide +kernel
theorem dX10_bound_51 : decode cX10_bound 51 = .ok (.iload_n 2, 1) := by decide +kernel
theorem dX10_bound_52 : decode cX10_bound 52 = .ok (.ineg, 1) := by decide +kernel
theorem dX10_bound_53 : decode cX10_bound 53 = .ok (.invokevirtual 229, 3) := by decide +kernel
theorem dX10_bound_56 : decode cX10_bound 56 = .ok (.goto 11, 3) := by decide +kernel
theorem dX10_bound_59 : decode cX10_bound 59 = .ok (.aload_n 0, 1) := by decide +kernel
theorem dX10_bound_60 : decode cX10_bound 60 = .ok (.bipush 12, 2) := by decide +kernel
theorem dX10_bound_62 : decode cX10_bound 62 = .ok (.iload_n 1, 1) := by decide +kernel
theorem dX10_bound_63 : decode cX10_bound 63 = .ok (.iload_n 2, 1) := by decide +kernel
theorem dX10_bound_64 : decode cX10_bound 64 = .ok (.invokevirtual 229, 3) := by decide +kernel
theorem dX10_bound_67 : decode cX10_bound 67 = .ok (.ireturn, 1) := by decide +kernel
set_option maxRecDepth 20000 in
theorem ggX10_undo_X10_in : GoodIn wsX10_undo wsX10_in := goodIn_sub (xc (xt1 (xl (xt4 (xt1 (xt1 (xt1 (xh))))))) (xn)) (by decide +kernel)
set_option maxRecDepth 20000 in
theorem gX10_undo_X10_in : GoodIn wsX10_undo (va_wsS RX10 115 yX10_in wsX10_in) := goodIn_app (goodIn_sub (xc (xt1 (xl (xt4 (xh)))) (xc (xt1 (xl (xt4 (xt1 (xh))))) (xc (xt1 (xl (xt4 (xt1 (xt1 (xh)))))) (xn)))) (by decide +kernel)) ggX10_undo_X10_in
set_option maxRecDepth 20000 in
theorem ggX10_undo_X10_throwsIf : GoodIn wsX10_undo wsX10_throwsIf := goodIn_sub (xc (xt1 (xl (xt4 (xt4 (xt1 (xt1 (xt1 (xh)))))))) (xa (xc (xt1 (xl (xh))) (xn)) (fun _ h => xt1 (xr (h))))) (by decide +kernel)
set_option maxRecDepth 20000 in
theorem gX10_undo_X10_throwsIf : GoodIn wsX10_undo (wsV RX10 122 RX10 yX10_throwsIf wsX10_throwsIf) := goodIn_app (goodIn_sub (xc (xt1 (xl (xt4 (xt4 (xh))))) (xc (xt1 (xl (xt4 (xt4 (xt1 (xh)))))) (xc (xt1 (xl (xt4 (xt4 (xt1 (xt1 (xh))))))) (xc (xt1 (xl (xt4 (xt1 (xt1 (xh)))))) (xn))))) (by decide +kernel)) ggX10_undo_X10_throwsIf
theorem dX10_undo_0 : decode cX10_undo 0 = .ok (.aload_n 0, 1) := by decide +kernel
theorem dX10_undo_1 : decode cX10_undo 1 = .ok (.iconst 0, 1) := by decide +kernel
theorem dX10_undo_2 : decode cX10_undo 2 = .ok (.putfield 109, 3) := by decide +kernel
theorem dX10_undo_5 : decode cX10_undo 5 = .ok (.aload_n 0, 1) := by decide +kernel
theorem dX10_undo_6 : decode cX10_undo 6 = .ok (.iload_n 1, 1) := by decide +kernel
theorem dX10_undo_7 : decode cX10_undo 7 = .ok (.iconst 0, 1) := by decide +kernel
theorem dX10_undo_8 : decode cX10_undo 8 = .ok (.aload_n 0, 1) := by decide +kernel
theorem dX10_undo_9 : decode cX10_undo 9 = .ok (.getfield 223, 3) := by decide +kernel
theorem dX10_undo_12 : decode cX10_undo 12 = .ok (.iconst 1, 1) := by decide +kernel
theorem dX10_undo_13 : decode cX10_undo 13 = .ok (.isub, 1) := by decide +kernel
theorem dX10_undo_14 : decode cX10_undo 14 = .ok (.invokestatic 115, 3) := by decide +kernel
theorem dX10_undo_17 : decode cX10_undo 17 = .ok (.ifCond .ne 7, 3) := by decide +kernel
theorem dX10_undo_20 : decode cX10_undo 20 = .ok (.iconst 1, 1) := by decide +kernel
theorem dX10_undo_21 : decode cX10_undo 21 = .ok (.goto 4, 3) := by decide +kernel
theorem dX10_undo_24 : decode cX10_undo 24 = .ok (.iconst 0, 1) := by decide +kernel
theorem dX10_undo_25 : decode cX10_undo 25 = .ok (.iconst 1, 1) := by decide +kernel
theorem dX10_undo_26 : decode cX10_undo 26 = .ok (.invokevirtual 122, 3) := by decide +kernel
theorem dX10_undo_29 : decode cX10_undo 29 = .ok (.ifCond .ne 12, 3) := by decide +kernel
theorem dX10_undo_32 : decode cX10_undo 32 = .ok (.aload_n 0, 1) := by decide +kernel
theorem dX10_undo_33 : decode cX10_undo 33 = .ok (.getfield 97, 3) := by decide +kernel
theorem dX10_undo_36 : decode cX10_undo 36 = .ok (.iload_n 1, 1) := by decide +kernel
theorem dX10_undo_37 : decode cX10_undo 37 = .ok (.iaload, 1) := by decide +kernel
theorem dX10_undo_38 : decode cX10_undo 38 = .ok (.ifCond .lt 5, 3) := by decide +kernel
theorem dX10_undo_41 : decode cX10_undo 41 = .ok (.iconst 0, 1) := by decide +kernel
theorem dX10_undo_42 : decode cX10_undo 42 = .ok (.ireturn, 1) := by decide +kernel
theorem dX10_undo_43 : decode cX10_undo 43 = .ok (.aload_n 0, 1) := by decide +kernel
theorem dX10_undo_44 : decode cX10_undo 44 = .ok (.getfield 97, 3) := by decide +kernel
theorem dX10_undo_47 : decode cX10_undo 47 = .ok (.iload_n 1, 1) := by decide +kernel
theorem dX10_undo_48 : decode cX10_undo 48 = .ok (.aload_n 0, 1) := by decide +kernel
theorem dX10_undo_49 : decode cX10_undo 49 = .ok (.getfield 226, 3) := by decide +kernel
theorem dX10_undo_52 : decode cX10_undo 52 = .ok (.iastore, 1) := by decide +kernel
theorem dX10_undo_53 : decode cX10_undo 53 = .ok (.iconst 1, 1) := by decide +kernel
theorem dX10_undo_54 : decode cX10_undo 54 = .ok (.ireturn, 1) := by decide +kernel
set_option maxRecDepth 20000 in
theorem ggX10_days_X10_in : GoodIn wsX10_days wsX10_in := goodIn_sub (xc (xt1 (xl (xt4 (xt1 (xh))))) (xn)) (by decide +kernel)
set_option maxRecDepth 20000 in
theorem gX10_days_X10_in : GoodIn wsX10_days (va_wsS RX10 115 yX10_in wsX10_in) := goodIn_app (goodIn_sub (xc (xt1 (xl (xt1 (xt1 (xh))))) (xc (xt1 (xl (xt1 (xt1 (xt1 (xh)))))) (xc (xt1 (xl (xt4 (xh)))) (xn)))) (by decide +kernel)) ggX10_days_X10_in
set_option maxRecDepth 20000 in
theorem ggX10_days_X10_throwsIf : GoodIn wsX10_days wsX10_throwsIf := goodIn_sub (xc (xt1 (xl (xt4 (xt4 (xt1 (xh)))))) (xa (xc (xt1 (xl (xh))) (xn)) (fun _ h => xt1 (xr (h))))) (by decide +kernel)
set_option maxRecDepth 20000 in
theorem gX10_days_X10_throwsIf : GoodIn wsX10_days (wsV RX10 122 RX10 yX10_throwsIf wsX10_throwsIf) := goodIn_app (goodIn_sub (xc (xt1 (xl (xt4 (xt1 (xt1 (xh)))))) (xc (xt1 (xl (xt4 (xt1 (xt1 (xt1 (xh))))))) (xc (xt1 (xl (xt4 (xt4 (xh))))) (xc (xt1 (xl (xt4 (xh)))) (xn))))) (by decide +kernel)) ggX10_days_X10_throwsIf
theorem dX10_days_0 : decode cX10_days 0 = .ok (.aload_n 0, 1) := by decide +kernel
theorem dX10_days_1 : decode cX10_days 1 = .ok (.iconst 0, 1) := by decide +kernel
theorem dX10_days_2 : decode cX10_days 2 = .ok (.putfield 109, 3) := by decide +kernel
theorem dX10_days_5 : decode cX10_days 5 = .ok (.aload_n 0, 1) := by decide +kernel
theorem dX10_days_6 : decode cX10_days 6 = .ok (.iload_n 1, 1) := by decide +kernel
theorem dX10_days_7 : decode cX10_days 7 = .ok (.iconst 0, 1) := by decide +kernel
theorem dX10_days_8 : decode cX10_days 8 = .ok (.sipush 1000, 3) := by decide +kernel
theorem dX10_days_11 : decode cX10_days 11 = .ok (.invokestatic 115, 3) := by decide +kernel
theorem dX10_days_14 : decode cX10_days 14 = .ok (.ifCond .ne 7, 3) := by decide +kernel
theorem dX10_days_17 : decode cX10_days 17 = .ok (.iconst 1, 1) := by decide +kernel
theorem dX10_days_18 : decode cX10_days 18 = .ok (.goto 4, 3) := by decide +kernel
theorem dX10_days_21 : decode cX10_days 21 = .ok (.iconst 0, 1) := by decide +kernel
theorem dX10_days_22 : decode cX10_days 22 = .ok (.iconst 1, 1) := by decide +kernel
theorem dX10_days_23 : decode cX10_days 23 = .ok (.invokevirtual 122, 3) := by decide +kernel
theorem dX10_days_26 : decode cX10_days 26 = .ok (.ifCond .eq 5, 3) := by decide +kernel
theorem dX10_days_29 : decode cX10_days 29 = .ok (.iconst 0, 1) := by decide +kernel
theorem dX10_days_30 : decode cX10_days 30 = .ok (.ireturn, 1) := by decide +kernel
theorem dX10_days_31 : decode cX10_days 31 = .ok (.aload_n 0, 1) := by decide +kernel
theorem dX10_days_32 : decode cX10_days 32 = .ok (.dup, 1) := by decide +kernel
theorem dX10_days_33 : decode cX10_days 33 = .ok (.getfield 226, 3) := by decide +kernel
theorem dX10_days_36 : decode cX10_days 36 = .ok (.iload_n 1, 1) := by decide +kernel
theorem dX10_days_37 : decode cX10_days 37 = .ok (.iadd, 1) := by decide +kernel
theorem dX10_days_38 : decode cX10_days 38 = .ok (.putfield 226, 3) := by decide +kernel
theorem dX10_days_41 : decode cX10_days 41 = .ok (.aload_n 0, 1) := by decide +kernel
theorem dX10_days_42 : decode cX10_days 42 = .ok (.getfield 226, 3) := by decide +kernel
theorem dX10_days_45 : decode cX10_days 45 = .ok (.ireturn, 1) := by decide +kernel
theorem dX10_steps_0 : decode cX10_steps 0 = .ok (.iconst 0, 1) := by decide +kernel
theorem dX10_steps_1 : decode cX10_steps 1 = .ok (.istore_n 2, 1) := by decide +kernel
theorem dX10_steps_2 : decode cX10_steps 2 = .ok (.iload_n 2, 1) := by decide +kernel
theorem dX10_steps_3 : decode cX10_steps 3 = .ok (.sipush 169, 3) := by decide +kernel
theorem dX10_steps_6 : decode cX10_steps 6 = .ok (.if_icmp .ge 17, 3) := by decide +kernel
theorem dX10_steps_9 : decode cX10_steps 9 = .ok (.aload_n 0, 1) := by decide +kernel
theorem dX10_steps_10 : decode cX10_steps 10 = .ok (.getfield 100, 3) := by decide +kernel
theorem dX10_steps_13 : decode cX10_steps 13 = .ok (.iload_n 2, 1) := by decide +kernel
theorem dX10_steps_14 : decode cX10_steps 14 = .ok (.ldc 233, 2) := by decide +kernel
theorem dX10_steps_16 : decode cX10_steps 16 = .ok (.iastore, 1) := by decide +kernel
theorem dX10_steps_17 : decode cX10_steps 17 = .ok (.iinc 2 1, 3) := by decide +kernel
theorem dX10_steps_20 : decode cX10_steps 20 = .ok (.goto (-18), 3) := by decide +kernel
theorem dX10_steps_23 : decode cX10_steps 23 = .ok (.iconst 0, 1) := by decide +kernel
theorem dX10_steps_24 : decode cX10_steps 24 = .ok (.istore_n 2, 1) := by decide +kernel
theorem dX10_steps_25 : decode cX10_steps 25 = .ok (.iload_n 2, 1) := by decide +kernel
theorem dX10_steps_26 : decode cX10_steps 26 = .ok (.aload_n 0, 1) := by decide +kernel
theorem dX10_steps_27 : decode cX10_steps 27 = .ok (.getfield 223, 3) := by decide +kernel
theorem dX10_steps_30 : decode cX10_steps 30 = .ok (.if_icmp .ge 79, 3) := by decide +kernel
theorem dX10_steps_33 : decode cX10_steps 33 = .ok (.aload_n 0, 1) := by decide +kernel
theorem dX10_steps_34 : decode cX10_steps 34 = .ok (.getfield 94, 3) := by decide +kernel
theorem dX10_steps_37 : decode cX10_steps 37 = .ok (.iload_n 2, 1) := by decide +kernel
theorem dX10_steps_38 : decode cX10_steps 38 = .ok (.iaload, 1) := by decide +kernel
theorem dX10_steps_39 : decode cX10_steps 39 = .ok (.iload_n 1, 1) := by decide +kernel
theorem dX10_steps_40 : decode cX10_steps 40 = .ok (.if_icmp .gt 63, 3) := by decide +kernel
theorem dX10_steps_43 : decode cX10_steps 43 = .ok (.aload_n 0, 1) := by decide +kernel
theorem dX10_steps_44 : decode cX10_steps 44 = .ok (.getfield 97, 3) := by decide +kernel
theorem dX10_steps_47 : decode cX10_steps 47 = .ok (.iload_n 2, 1) := by decide +kernel
theorem dX10_steps_48 : decode cX10_steps 48 = .ok (.iaload, 1) := by decide +kernel
theorem dX10_steps_49 : decode cX10_steps 49 = .ok (.ifCond .lt 16, 3) := by decide +kernel
theorem dX10_steps_52 : decode cX10_steps 52 = .ok (.iload_n 1, 1) := by decide +kernel
theorem dX10_steps_53 : decode cX10_steps 53 = .ok (.aload_n 0, 1) := by decide +kernel
theorem dX10_steps_54 : decode cX10_steps 54 = .ok (.getfield 97, 3) := by decide +kernel
theorem dX10_steps_57 : decode cX10_steps 57 = .ok (.iload_n 2, 1) := by decide +kernel
theorem dX10_steps_58 : decode cX10_steps 58 = .ok (.iaload, 1) := by decide +kernel
theorem dX10_steps_59 : decode cX10_steps 59 = .ok (.if_icmp .lt 6, 3) := by decide +kernel
theorem dX10_steps_62 : decode cX10_steps 62 = .ok (.goto 41, 3) := by decide +kernel
theorem dX10_steps_65 : decode cX10_steps 65 = .ok (.bipush 13, 2) := by decide +kernel
theorem dX10_steps_67 : decode cX10_steps 67 = .ok (.aload_n 0, 1) := by decide +kernel
theorem dX10_steps_68 : decode cX10_steps 68 = .ok (.getfield 85, 3) := by decide +kernel
theorem dX10_steps_71 : decode cX10_steps 71 = .ok (.iload_n 2, 1) := by decide +kernel
theorem dX10_steps_72 : decode cX10_steps 72 = .ok (.iaload, 1) := by decide +kernel
theorem dX10_steps_73 : decode cX10_steps 73 = .ok (.imul, 1) := by decide +kernel
theorem dX10_steps_74 : decode cX10_steps 74 = .ok (.aload_n 0, 1) := by decide +kernel
theorem dX10_steps_75 : decode cX10_steps 75 = .ok (.getfield 88, 3) := by decide +kernel
theorem dX10_steps_78 : decode cX10_steps 78 = .ok (.iload_n 2, 1) := by decide +kernel
theorem dX10_steps_79 : decode cX10_steps 79 = .ok (.iaload, 1) := by decide +kernel
theorem dX10_steps_80 : decode cX10_steps 80 = .ok (.iadd, 1) := by decide +kernel
theorem dX10_steps_81 : decode cX10_steps 81 = .ok (.istore_n 3, 1) := by decide +kernel
theorem dX10_steps_82 : decode cX10_steps 82 = .ok (.aload_n 0, 1) := by decide +kernel
theorem dX10_steps_83 : decode cX10_steps 83 = .ok (.getfield 100, 3) := by decide +kernel
theorem dX10_steps_86 : decode cX10_steps 86 = .ok (.iload_n 3, 1) := by decide +kernel
theorem dX10_steps_87 : decode cX10_steps 87 = .ok (.aload_n 0, 1) := by decide +kernel
theorem dX10_steps_88 : decode cX10_steps 88 = .ok (.getfield 100, 3) := by decide +kernel
theorem dX10_steps_91 : decode cX10_steps 91 = .ok (.iload_n 3, 1) := by decide +kernel
theorem dX10_steps_92 : decode cX10_steps 92 = .ok (.iaload, 1) := by decide +kernel
theorem dX10_steps_93 : decode cX10_steps 93 = .ok (.aload_n 0, 1) := by decide +kernel
theorem dX10_steps_94 : decode cX10_steps 94 = .ok (.getfield 91, 3) := by decide +kernel
theorem dX10_steps_97 : decode cX10_steps 97 = .ok (.iload_n 2, 1) := by decide +kernel
theorem dX10_steps_98 : decode cX10_steps 98 = .ok (.iaload, 1) := by decide +kernel
theorem dX10_steps_99 : decode cX10_steps 99 = .ok (.invokestatic 153, 3) := by decide +kernel
theorem dX10_steps_102 : decode cX10_steps 102 = .ok (.iastore, 1) := by decide +kernel
theorem dX10_steps_103 : decode cX10_steps 103 = .ok (.iinc 2 1, 3) := by decide +kernel
theorem dX10_steps_106 : decode cX10_steps 106 = .ok (.goto (-81), 3) := by decide +kernel
theorem dX10_steps_109 : decode cX10_steps 109 = .ok (.return_, 1) := by decide +kernel
set_option maxRecDepth 20000 in
theorem ggX10_round_X10_steps : GoodIn wsX10_round wsX10_steps := goodIn_sub (xc (xt1 (xl (xt4 (xt4 (xt4 (xh)))))) (xa (xc (xt1 (xl (xt1 (xh)))) (xc (xt1 (xl (xt1 (xt1 (xh))))) (xc (xt1 (xl (xt4 (xt4 (xt4 (xt1 (xh))))))) (xc (xt1 (xl (xt4 (xt4 (xt4 (xt1 (xt1 (xh)))))))) (xc (xt1 (xl (xt4 (xt4 (xt4 (xt1 (xt1 (xt1 (xh))))))))) (xc (xt1 (xl (xt16 (xh)))) (xc (xt1 (xl (xt16 (xt1 (xh))))) (xc (xt1 (xl (xt16 (xt1 (xt1 (xh)))))) (xc (xt1 (xl (xt1 (xt1 (xt1 (xh)))))) (xc (xt1 (xl (xt4 (xh)))) (xc (xt1 (xl (xt4 (xt1 (xh))))) (xc (xt1 (xl (xt4 (xt1 (xt1 (xh)))))) (xn))))))))))))) (fun _ h => xt1 (xr (h))))) (by decide +kernel)
set_option maxRecDepth 20000 in
theorem gX10_round_X10_steps : GoodIn wsX10_round (wsV RX10 234 RX10 yX10_steps wsX10_steps) := goodIn_app (goodIn_sub (xc (xt1 (xl (xt4 (xt4 (xh))))) (xc (xt1 (xl (xt4 (xt4 (xt1 (xh)))))) (xc (xt1 (xl (xt4 (xt4 (xt1 (xt1 (xh))))))) (xc (xt1 (xl (xt4 (xt4 (xt1 (xt1 (xt1 (xh)))))))) (xn))))) (by decide +kernel)) ggX10_round_X10_steps
theorem kdX10_round_0 : (decide (decode cX10_round 0 = .ok (.aload_n 0, 1)) && (decide (decode cX10_round 1 = .ok (.iload_n 1, 1)) && (decide (decode cX10_round 2 = .ok (.invokevirtual 234, 3)) && (decide (decode cX10_round 5 = .ok (.iconst 0, 1)) && (decide (decode cX10_round 6 = .ok (.istore_n 2, 1)) && (decide (decode cX10_round 7 = .ok (.iload_n 2, 1)) && (decide (decode cX10_round 8 = .ok (.sipush 169, 3)) && (decide (decode cX10_round 11 = .ok (.if_icmp .ge 21, 3)) && (decide (decode cX10_round 14 = .ok (.aload_n 0, 1)) && (decide (decode cX10_round 15 = .ok (.getfield 103, 3)) && (decide (decode cX10_round 18 = .ok (.iload_n 2, 1)) && (decide (decode cX10_round 19 = .ok (.aload_n 0, 1)) && (decide (decode cX10_round 20 = .ok (.getfield 100, 3)) && (decide (decode cX10_round 23 = .ok (.iload_n 2, 1)) && (decide (decode cX10_round 24 = .ok (.iaload, 1)) && (decide (decode cX10_round 25 = .ok (.iastore, 1)) && (decide (decode cX10_round 26 = .ok (.iinc 2 1, 3)) && (decide (decode cX10_round 29 = .ok (.goto (-22), 3)) && (decide (decode cX10_round 32 = .ok (.iconst 2, 1)) && (decide (decode cX10_round 33 = .ok (.istore_n 2, 1)) && (decide (decode cX10_round 34 = .ok (.iload_n 2, 1)) && (decide (decode cX10_round 35 = .ok (.bipush 13, 2)) && (decide (decode cX10_round 37 = .ok (.if_icmp .gt 198, 3)) && (decide (decode cX10_round 40 = .ok (.iconst 0, 1)) && (decide (decode cX10_round 41 = .ok (.istore_n 3, 1)) && (decide (decode cX10_round 42 = .ok (.iload_n 3, 1)) && (decide (decode cX10_round 43 = .ok (.bipush 13, 2)) && (decide (decode cX10_round 45 = .ok (.if_icmp .ge 127, 3)) && (decide (decode cX10_round 48 = .ok (.iconst 0, 1)) && (decide (decode cX10_round 49 = .ok (.istore 4, 2)) && (decide (decode cX10_round 51 = .ok (.iload 4, 2)) && (decide (decode cX10_round 53 = .ok (.bipush 13, 2)))))))))))))))))))))))))))))))))) = true := by decide +kernel
theorem dX10_round_0 : decode cX10_round 0 = .ok (.aload_n 0, 1) := of_decide_eq_true (hb_l (kdX10_round_0))
theorem dX10_round_1 : decode cX10_round 1 = .ok (.iload_n 1, 1) := of_decide_eq_true (hb_l (hb_r (kdX10_round_0)))
theorem dX10_round_2 : decode cX10_round 2 = .ok (.invokevirtual 234, 3) := of_decide_eq_true (hb_l (hb_r (hb_r (kdX10_round_0))))
theorem dX10_round_5 : decode cX10_round 5 = .ok (.iconst 0, 1) := of_decide_eq_true (hb_l (hb_r (hb_r (hb_r (kdX10_round_0)))))
theorem dX10_round_6 : decode cX10_round 6 = .ok (.istore_n 2, 1) := of_decide_eq_true (hb_l (hb_r (hb_r (hb_r (hb_r (kdX10_round_0))))))
theorem dX10_round_7 : decode cX10_round 7 = .ok (.iload_n 2, 1) := of_decide_eq_true (hb_l (hb_r (hb_r (hb_r (hb_r (hb_r (kdX10_round_0)))))))
theorem dX10_round_8 : decode cX10_round 8 = .ok (.sipush 169, 3) := of_decide_eq_true (hb_l (hb_r (hb_r (hb_r (hb_r (hb_r (hb_r (kdX10_round_0))))))))
theorem dX10_round_11 : decode cX10_round 11 = .ok (.if_icmp .ge 21, 3) := of_decide_eq_true (hb_l (hb_r (hb_r (hb_r (hb_r (hb_r (hb_r (hb_r (kdX10_round_0)))))))))
theorem dX10_round_14 : decode cX10_round 14 = .ok (.aload_n 0, 1) := of_decide_eq_true (hb_l (hb_r (hb_r (hb_r (hb_r (hb_r (hb_r (hb_r (hb_r (kdX10_round_0))))))))))
theorem dX10_round_15 : decode cX10_round 15 = .ok (.getfield 103, 3) := of_decide_eq_true (hb_l (hb_r (hb_r (hb_r (hb_r (hb_r (hb_r (hb_r (hb_r (hb_r (kdX10_round_0)))))))))))
theorem dX10_round_18 : decode cX10_round 18 = .ok (.iload_n 2, 1) := of_decide_eq_true (hb_l (hb_r (hb_r (hb_r (hb_r (hb_r (hb_r (hb_r (hb_r (hb_r (hb_r (kdX10_round_0))))))))))))
theorem dX10_round_19 : decode cX10_round 19 = .ok (.aload_n 0, 1) := of_decide_eq_true (hb_l (hb_r (hb_r (hb_r (hb_r (hb_r (hb_r (hb_r (hb_r (hb_r (hb_r (hb_r (kdX10_round_0)))))))))))))
theorem dX10_round_20 : decode cX10_round 20 = .ok (.getfield 100, 3) := of_decide_eq_true (hb_l (hb_r (hb_r (hb_r (hb_r (hb_r (hb_r (hb_r (hb_r (hb_r (hb_r (hb_r (hb_r (kdX10_round_0))))))))))))))
theorem dX10_round_23 : decode cX10_round 23 = .ok (.iload_n 2, 1) := of_decide_eq_true (hb_l (hb_r (hb_r (hb_r (hb_r (hb_r (hb_r (hb_r (hb_r (hb_r (hb_r (hb_r (hb_r (hb_r (kdX10_round_0)))))))))))))))
theorem dX10_round_24 : decode cX10_round 24 = .ok (.iaload, 1) := of_decide_eq_true (hb_l (hb_r (hb_r (hb_r (hb_r (hb_r (hb_r (hb_r (hb_r (hb_r (hb_r (hb_r (hb_r (hb_r (hb_r (kdX10_round_0))))))))))))))))
theorem dX10_round_25 : decode cX10_round 25 = .ok (.iastore, 1) := of_decide_eq_true (hb_l (hb_r (hb_r (hb_r (hb_r (hb_r (hb_r (hb_r (hb_r (hb_r (hb_r (hb_r (hb_r (hb_r (hb_r (hb_r (kdX10_round_0)))))))))))))))))
theorem dX10_round_26 : decode cX10_round 26 = .ok (.iinc 2 1, 3) := of_decide_eq_true (hb_l (hb_r (hb_r (hb_r (hb_r (hb_r (hb_r (hb_r (hb_r (hb_r (hb_r (hb_r (hb_r (hb_r (hb_r (hb_r (hb_r (kdX10_round_0))))))))))))))))))
theorem dX10_round_29 : decode cX10_round 29 = .ok (.goto (-22), 3) := of_decide_eq_true (hb_l (hb_r (hb_r (hb_r (hb_r (hb_r (hb_r (hb_r (hb_r (hb_r (hb_r (hb_r (hb_r (hb_r (hb_r (hb_r (hb_r (hb_r (kdX10_round_0)))))))))))))))))))
theorem dX10_round_32 : decode cX10_round 32 = .ok (.iconst 2, 1) := of_decide_eq_true (hb_l (hb_r (hb_r (hb_r (hb_r (hb_r (hb_r (hb_r (hb_r (hb_r (hb_r (hb_r (hb_r (hb_r (hb_r (hb_r (hb_r (hb_r (hb_r (kdX10_round_0))))))))))))))))))))
theorem dX10_round_33 : decode cX10_round 33 = .ok (.istore_n 2, 1) := of_decide_eq_true (hb_l (hb_r (hb_r (hb_r (hb_r (hb_r (hb_r (hb_r (hb_r (hb_r (hb_r (hb_r (hb_r (hb_r (hb_r (hb_r (hb_r (hb_r (hb_r (hb_r (kdX10_round_0)))))))))))))))))))))
theorem dX10_round_34 : decode cX10_round 34 = .ok (.iload_n 2, 1) := of_decide_eq_true (hb_l (hb_r (hb_r (hb_r (hb_r (hb_r (hb_r (hb_r (hb_r (hb_r (hb_r (hb_r (hb_r (hb_r (hb_r (hb_r (hb_r (hb_r (hb_r (hb_r (hb_r (kdX10_round_0))))))))))))))))))))))
theorem dX10_round_35 : decode cX10_round 35 = .ok (.bipush 13, 2) := of_decide_eq_true (hb_l (hb_r (hb_r (hb_r (hb_r (hb_r (hb_r (hb_r (hb_r (hb_r (hb_r (hb_r (hb_r (hb_r (hb_r (hb_r (hb_r (hb_r (hb_r (hb_r (hb_r (hb_r (kdX10_round_0)))))))))))))))))))))))
theorem dX10_round_37 : decode cX10_round 37 = .ok (.if_icmp .gt 198, 3) := of_decide_eq_true (hb_l (hb_r (hb_r (hb_r (hb_r (hb_r (hb_r (hb_r (hb_r (hb_r (hb_r (hb_r (hb_r (hb_r (hb_r (hb_r (hb_r (hb_r (hb_r (hb_r (hb_r (hb_r (hb_r (kdX10_round_0))))))))))))))))))))))))
theorem dX10_round_40 : decode cX10_round 40 = .ok (.iconst 0, 1) := of_decide_eq_true (hb_l (hb_r (hb_r (hb_r (hb_r (hb_r (hb_r (hb_r (hb_r (hb_r (hb_r (hb_r (hb_r (hb_r (hb_r (hb_r (hb_r (hb_r (hb_r (hb_r (hb_r (hb_r (hb_r (hb_r (kdX10_round_0)))))))))))))))))))))))))
theorem dX10_round_41 : decode cX10_round 41 = .ok (.istore_n 3, 1) := of_decide_eq_true (hb_l (hb_r (hb_r (hb_r (hb_r (hb_r (hb_r (hb_r (hb_r (hb_r (hb_r (hb_r (hb_r (hb_r (hb_r (hb_r (hb_r (hb_r (hb_r (hb_r (hb_r (hb_r (hb_r (hb_r (hb_r (kdX10_round_0))))))))))))))))))))))))))
theorem dX10_round_42 : decode cX10_round 42 = .ok (.iload_n 3, 1) := of_decide_eq_true (hb_l (hb_r (hb_r (hb_r (hb_r (hb_r (hb_r (hb_r (hb_r (hb_r (hb_r (hb_r (hb_r (hb_r (hb_r (hb_r (hb_r (hb_r (hb_r (hb_r (hb_r (hb_r (hb_r (hb_r (hb_r (hb_r (kdX10_round_0)))))))))))))))))))))))))))
theorem dX10_round_43 : decode cX10_round 43 = .ok (.bipush 13, 2) := of_decide_eq_true (hb_l (hb_r (hb_r (hb_r (hb_r (hb_r (hb_r (hb_r (hb_r (hb_r (hb_r (hb_r (hb_r (hb_r (hb_r (hb_r (hb_r (hb_r (hb_r (hb_r (hb_r (hb_r (hb_r (hb_r (hb_r (hb_r (hb_r (kdX10_round_0))))))))))))))))))))))))))))
theorem dX10_round_45 : decode cX10_round 45 = .ok (.if_icmp .ge 127, 3) := of_decide_eq_true (hb_l (hb_r (hb_r (hb_r (hb_r (hb_r (hb_r (hb_r (hb_r (hb_r (hb_r (hb_r (hb_r (hb_r (hb_r (hb_r (hb_r (hb_r (hb_r (hb_r (hb_r (hb_r (hb_r (hb_r (hb_r (hb_r (hb_r (hb_r (kdX10_round_0)))))))))))))))))))))))))))))
theorem dX10_round_48 : decode cX10_round 48 = .ok (.iconst 0, 1) := of_decide_eq_true (hb_l (hb_r (hb_r (hb_r (hb_r (hb_r (hb_r (hb_r (hb_r (hb_r (hb_r (hb_r (hb_r (hb_r (hb_r (hb_r (hb_r (hb_r (hb_r (hb_r (hb_r (hb_r (hb_r (hb_r (hb_r (hb_r (hb_r (hb_r (hb_r (kdX10_round_0))))))))))))))))))))))))))))))
theorem dX10_round_49 : decode cX10_round 49 = .ok (.istore 4, 2) := of_decide_eq_true (hb_l (hb_r (hb_r (hb_r (hb_r (hb_r (hb_r (hb_r (hb_r (hb_r (hb_r (hb_r (hb_r (hb_r (hb_r (hb_r (hb_r (hb_r (hb_r (hb_r (hb_r (hb_r (hb_r (hb_r (hb_r (hb_r (hb_r (hb_r (hb_r (hb_r (kdX10_round_0)))))))))))))))))))))))))))))))
theorem dX10_round_51 : decode cX10_round 51 = .ok (.iload 4, 2) := of_decide_eq_true (hb_l (hb_r (hb_r (hb_r (hb_r (hb_r (hb_r (hb_r (hb_r (hb_r (hb_r (hb_r (hb_r (hb_r (hb_r (hb_r (hb_r (hb_r (hb_r (hb_r (hb_r (hb_r (hb_r (hb_r (hb_r (hb_r (hb_r (hb_r (hb_r (hb_r (hb_r (kdX10_round_0))))))))))))))))))))))))))))))))
theorem dX10_round_53 : decode cX10_round 53 = .ok (.bipush 13, 2) := of_decide_eq_true (hb_r (hb_r (hb_r (hb_r (hb_r (hb_r (hb_r (hb_r (hb_r (hb_r (hb_r (hb_r (hb_r (hb_r (hb_r (hb_r (hb_r (hb_r (hb_r (hb_r (hb_r (hb_r (hb_r (hb_r (hb_r (hb_r (hb_r (hb_r (hb_r (hb_r (hb_r (kdX10_round_0))))))))))))))))))))))))))))))))
theorem kdX10_round_55 : (decide (decode cX10_round 55 = .ok (.if_icmp .ge 111, 3)) && (decide (decode cX10_round 58 = .ok (.ldc 233, 2)) && (decide (decode cX10_round 60 = .ok (.istore 5, 2)) && (decide (decode cX10_round 62 = .ok (.iconst 0, 1)) && (decide (decode cX10_round 63 = .ok (.istore 6, 2)) && (decide (decode cX10_round 65 = .ok (.iload 6, 2)) && (decide (decode cX10_round 67 = .ok (.bipush 13, 2)) && (decide (decode cX10_round 69 = .ok (.if_icmp .ge 77, 3)) && (decide (decode cX10_round 72 = .ok (.aload_n 0, 1)) && (decide (decode cX10_round 73 = .ok (.getfield 103, 3)) && (decide (decode cX10_round 76 = .ok (.bipush 13, 2)) && (decide (decode cX10_round 78 = .ok (.iload_n 3, 1)) && (decide (decode cX10_round 79 = .ok (.imul, 1)) && (decide (decode cX10_round 80 = .ok (.iload 6, 2)) && (decide (decode cX10_round 82 = .ok (.iadd, 1)) && (decide (decode cX10_round 83 = .ok (.iaload, 1)) && (decide (decode cX10_round 84 = .ok (.ldc 233, 2)) && (decide (decode cX10_round 86 = .ok (.if_icmp .le 54, 3)) && (decide (decode cX10_round 89 = .ok (.aload_n 0, 1)) && (decide (decode cX10_round 90 = .ok (.getfield 100, 3)) && (decide (decode cX10_round 93 = .ok (.bipush 13, 2)) && (decide (decode cX10_round 95 = .ok (.iload 6, 2)) && (decide (decode cX10_round 97 = .ok (.imul, 1)) && (decide (decode cX10_round 98 = .ok (.iload 4, 2)) && (decide (decode cX10_round 100 = .ok (.iadd, 1)) && (decide (decode cX10_round 101 = .ok (.iaload, 1)) && (decide (decode cX10_round 102 = .ok (.ldc 233, 2)) && (decide (decode cX10_round 104 = .ok (.if_icmp .le 36, 3)) && (decide (decode cX10_round 107 = .ok (.iload 5, 2)) && (decide (decode cX10_round 109 = .ok (.aload_n 0, 1)) && (decide (decode cX10_round 110 = .ok (.getfield 103, 3)) && (decide (decode cX10_round 113 = .ok (.bipush 13, 2)))))))))))))))))))))))))))))))))) = true := by decide +kernel
theorem dX10_round_55 : decode cX10_round 55 = .ok (.if_icmp .ge 111, 3) := of_decide_eq_true (hb_l (kdX10_round_55))
theorem dX10_round_58 : decode cX10_round 58 = .ok (.ldc 233, 2) := of_decide_eq_true (hb_l (hb_r (kdX10_round_55)))
theorem dX10_round_60 : decode cX10_round 60 = .ok (.istore 5, 2) := of_decide_eq_true (hb_l (hb_r (hb_r (kdX10_round_55))))
theorem dX10_round_62 : decode cX10_round 62 = .ok (.iconst 0, 1) := of_decide_eq_true (hb_l (hb_r (hb_r (hb_r (kdX10_round_55)))))
theorem dX10_round_63 : decode cX10_round 63 = .ok (.istore 6, 2) := of_decide_eq_true (hb_l (hb_r (hb_r (hb_r (hb_r (kdX10_round_55))))))
theorem dX10_round_65 : decode cX10_round 65 = .ok (.iload 6, 2) := of_decide_eq_true (hb_l (hb_r (hb_r (hb_r (hb_r (hb_r (kdX10_round_55)))))))
theorem dX10_round_67 : decode cX10_round 67 = .ok (.bipush 13, 2) := of_decide_eq_true (hb_l (hb_r (hb_r (hb_r (hb_r (hb_r (hb_r (kdX10_round_55))))))))
theorem dX10_round_69 : decode cX10_round 69 = .ok (.if_icmp .ge 77, 3) := of_decide_eq_true (hb_l (hb_r (hb_r (hb_r (hb_r (hb_r (hb_r (hb_r (kdX10_round_55)))))))))
theorem dX10_round_72 : decode cX10_round 72 = .ok (.aload_n 0, 1) := of_decide_eq_true (hb_l (hb_r (hb_r (hb_r (hb_r (hb_r (hb_r (hb_r (hb_r (kdX10_round_55))))))))))
theorem dX10_round_73 : decode cX10_round 73 = .ok (.getfield 103, 3) := of_decide_eq_true (hb_l (hb_r (hb_r (hb_r (hb_r (hb_r (hb_r (hb_r (hb_r (hb_r (kdX10_round_55)))))))))))
theorem dX10_round_76 : decode cX10_round 76 = .ok (.bipush 13, 2) := of_decide_eq_true (hb_l (hb_r (hb_r (hb_r (hb_r (hb_r (hb_r (hb_r (hb_r (hb_r (hb_r (kdX10_round_55))))))))))))
theorem dX10_round_78 : decode cX10_round 78 = .ok (.iload_n 3, 1) := of_decide_eq_true (hb_l (hb_r (hb_r (hb_r (hb_r (hb_r (hb_r (hb_r (hb_r (hb_r (hb_r (hb_r (kdX10_round_55)))))))))))))
theorem dX10_round_79 : decode cX10_round 79 = .ok (.imul, 1) := of_decide_eq_true (hb_l (hb_r (hb_r (hb_r (hb_r (hb_r (hb_r (hb_r (hb_r (hb_r (hb_r (hb_r (hb_r (kdX10_round_55))))))))))))))
theorem dX10_round_80 : decode cX10_round 80 = .ok (.iload 6, 2) := of_decide_eq_true (hb_l (hb_r (hb_r (hb_r (hb_r (hb_r (hb_r (hb_r (hb_r (hb_r (hb_r (hb_r (hb_r (hb_r (kdX10_round_55)))))))))))))))
theorem dX10_round_82 : decode cX10_round 82 = .ok (.iadd, 1) := of_decide_eq_true (hb_l (hb_r (hb_r (hb_r (hb_r (hb_r (hb_r (hb_r (hb_r (hb_r (hb_r (hb_r (hb_r (hb_r (hb_r (kdX10_round_55))))))))))))))))
theorem dX10_round_83 : decode cX10_round 83 = .ok (.iaload, 1) := of_decide_eq_true (hb_l (hb_r (hb_r (hb_r (hb_r (hb_r (hb_r (hb_r (hb_r (hb_r (hb_r (hb_r (hb_r (hb_r (hb_r (hb_r (kdX10_round_55)))))))))))))))))
theorem dX10_round_84 : decode cX10_round 84 = .ok (.ldc 233, 2) := of_decide_eq_true (hb_l (hb_r (hb_r (hb_r (hb_r (hb_r (hb_r (hb_r (hb_r (hb_r (hb_r (hb_r (hb_r (hb_r (hb_r (hb_r (hb_r (kdX10_round_55))))))))))))))))))
theorem dX10_round_86 : decode cX10_round 86 = .ok (.if_icmp .le 54, 3) := of_decide_eq_true (hb_l (hb_r (hb_r (hb_r (hb_r (hb_r (hb_r (hb_r (hb_r (hb_r (hb_r (hb_r (hb_r (hb_r (hb_r (hb_r (hb_r (hb_r (kdX10_round_55)))))))))))))))))))
theorem dX10_round_89 : decode cX10_round 89 = .ok (.aload_n 0, 1) := of_decide_eq_true (hb_l (hb_r (hb_r (hb_r (hb_r (hb_r (hb_r (hb_r (hb_r (hb_r (hb_r (hb_r (hb_r (hb_r (hb_r (hb_r (hb_r (hb_r (hb_r (kdX10_round_55))))))))))))))))))))
theorem dX10_round_90 : decode cX10_round 90 = .ok (.getfield 100, 3) := of_decide_eq_true (hb_l (hb_r (hb_r (hb_r (hb_r (hb_r (hb_r (hb_r (hb_r (hb_r (hb_r (hb_r (hb_r (hb_r (hb_r (hb_r (hb_r (hb_r (hb_r (hb_r (kdX10_round_55)))))))))))))))))))))
theorem dX10_round_93 : decode cX10_round 93 = .ok (.bipush 13, 2) := of_decide_eq_true (hb_l (hb_r (hb_r (hb_r (hb_r (hb_r (hb_r (hb_r (hb_r (hb_r (hb_r (hb_r (hb_r (hb_r (hb_r (hb_r (hb_r (hb_r (hb_r (hb_r (hb_r (kdX10_round_55))))))))))))))))))))))
theorem dX10_round_95 : decode cX10_round 95 = .ok (.iload 6, 2) := of_decide_eq_true (hb_l (hb_r (hb_r (hb_r (hb_r (hb_r (hb_r (hb_r (hb_r (hb_r (hb_r (hb_r (hb_r (hb_r (hb_r (hb_r (hb_r (hb_r (hb_r (hb_r (hb_r (hb_r (kdX10_round_55)))))))))))))))))))))))
theorem dX10_round_97 : decode cX10_round 97 = .ok (.imul, 1) := of_decide_eq_true (hb_l (hb_r (hb_r (hb_r (hb_r (hb_r (hb_r (hb_r (hb_r (hb_r (hb_r (hb_r (hb_r (hb_r (hb_r (hb_r (hb_r (hb_r (hb_r (hb_r (hb_r (hb_r (hb_r (kdX10_round_55))))))))))))))))))))))))
theorem dX10_round_98 : decode cX10_round 98 = .ok (.iload 4, 2) := of_decide_eq_true (hb_l (hb_r (hb_r (hb_r (hb_r (hb_r (hb_r (hb_r (hb_r (hb_r (hb_r (hb_r (hb_r (hb_r (hb_r (hb_r (hb_r (hb_r (hb_r (hb_r (hb_r (hb_r (hb_r (hb_r (kdX10_round_55)))))))))))))))))))))))))
theorem dX10_round_100 : decode cX10_round 100 = .ok (.iadd, 1) := of_decide_eq_true (hb_l (hb_r (hb_r (hb_r (hb_r (hb_r (hb_r (hb_r (hb_r (hb_r (hb_r (hb_r (hb_r (hb_r (hb_r (hb_r (hb_r (hb_r (hb_r (hb_r (hb_r (hb_r (hb_r (hb_r (hb_r (kdX10_round_55))))))))))))))))))))))))))
theorem dX10_round_101 : decode cX10_round 101 = .ok (.iaload, 1) := of_decide_eq_true (hb_l (hb_r (hb_r (hb_r (hb_r (hb_r (hb_r (hb_r (hb_r (hb_r (hb_r (hb_r (hb_r (hb_r (hb_r (hb_r (hb_r (hb_r (hb_r (hb_r (hb_r (hb_r (hb_r (hb_r (hb_r (hb_r (kdX10_round_55)))))))))))))))))))))))))))
theorem dX10_round_102 : decode cX10_round 102 = .ok (.ldc 233, 2) := of_decide_eq_true (hb_l (hb_r (hb_r (hb_r (hb_r (hb_r (hb_r (hb_r (hb_r (hb_r (hb_r (hb_r (hb_r (hb_r (hb_r (hb_r (hb_r (hb_r (hb_r (hb_r (hb_r (hb_r (hb_r (hb_r (hb_r (hb_r (hb_r (kdX10_round_55))))))))))))))))))))))))))))
theorem dX10_round_104 : decode cX10_round 104 = .ok (.if_icmp .le 36, 3) := of_decide_eq_true (hb_l (hb_r (hb_r (hb_r (hb_r (hb_r (hb_r (hb_r (hb_r (hb_r (hb_r (hb_r (hb_r (hb_r (hb_r (hb_r (hb_r (hb_r (hb_r (hb_r (hb_r (hb_r (hb_r (hb_r (hb_r (hb_r (hb_r (hb_r (kdX10_round_55)))))))))))))))))))))))))))))
theorem dX10_round_107 : decode cX10_round 107 = .ok (.iload 5, 2) := of_decide_eq_true (hb_l (hb_r (hb_r (hb_r (hb_r (hb_r (hb_r (hb_r (hb_r (hb_r (hb_r (hb_r (hb_r (hb_r (hb_r (hb_r (hb_r (hb_r (hb_r (hb_r (hb_r (hb_r (hb_r (hb_r (hb_r (hb_r (hb_r (hb_r (hb_r (kdX10_round_55))))))))))))))))))))))))))))))
theorem dX10_round_109 : decode cX10_round 109 = .ok (.aload_n 0, 1) := of_decide_eq_true (hb_l (hb_r (hb_r (hb_r (hb_r (hb_r (hb_r (hb_r (hb_r (hb_r (hb_r (hb_r (hb_r (hb_r (hb_r (hb_r (hb_r (hb_r (hb_r (hb_r (hb_r (hb_r (hb_r (hb_r (hb_r (hb_r (hb_r (hb_r (hb_r (hb_r (kdX10_round_55)))))))))))))))))))))))))))))))
theorem dX10_round_110 : decode cX10_round 110 = .ok (.getfield 103, 3) := of_decide_eq_true (hb_l (hb_r (hb_r (hb_r (hb_r (hb_r (hb_r (hb_r (hb_r (hb_r (hb_r (hb_r (hb_r (hb_r (hb_r (hb_r (hb_r (hb_r (hb_r (hb_r (hb_r (hb_r (hb_r (hb_r (hb_r (hb_r (hb_r (hb_r (hb_r (hb_r (hb_r (kdX10_round_55))))))))))))))))))))))))))))))))
theorem dX10_round_113 : decode cX10_round 113 = .ok (.bipush 13, 2) := of_decide_eq_true (hb_r (hb_r (hb_r (hb_r (hb_r (hb_r (hb_r (hb_r (hb_r (hb_r (hb_r (hb_r (hb_r (hb_r (hb_r (hb_r (hb_r (hb_r (hb_r (hb_r (hb_r (hb_r (hb_r (hb_r (hb_r (hb_r (hb_r (hb_r (hb_r (hb_r (hb_r (kdX10_round_55))))))))))))))))))))))))))))))))
theorem kdX10_round_115 : (decide (decode cX10_round 115 = .ok (.iload_n 3, 1)) && (decide (decode cX10_round 116 = .ok (.imul, 1)) && (decide (decode cX10_round 117 = .ok (.iload 6, 2)) && (decide (decode cX10_round 119 = .ok (.iadd, 1)) && (decide (decode cX10_round 120 = .ok (.iaload, 1)) && (decide (decode cX10_round 121 = .ok (.aload_n 0, 1)) && (decide (decode cX10_round 122 = .ok (.getfield 100, 3)) && (decide (decode cX10_round 125 = .ok (.bipush 13, 2)) && (decide (decode cX10_round 127 = .ok (.iload 6, 2)) && (decide (decode cX10_round 129 = .ok (.imul, 1)) && (decide (decode cX10_round 130 = .ok (.iload 4, 2)) && (decide (decode cX10_round 132 = .ok (.iadd, 1)) && (decide (decode cX10_round 133 = .ok (.iaload, 1)) && (decide (decode cX10_round 134 = .ok (.iadd, 1)) && (decide (decode cX10_round 135 = .ok (.invokestatic 153, 3)) && (decide (decode cX10_round 138 = .ok (.istore 5, 2)) && (decide (decode cX10_round 140 = .ok (.iinc 6 1, 3)) && (decide (decode cX10_round 143 = .ok (.goto (-78), 3)) && (decide (decode cX10_round 146 = .ok (.aload_n 0, 1)) && (decide (decode cX10_round 147 = .ok (.getfield 106, 3)) && (decide (decode cX10_round 150 = .ok (.bipush 13, 2)) && (decide (decode cX10_round 152 = .ok (.iload_n 3, 1)) && (decide (decode cX10_round 153 = .ok (.imul, 1)) && (decide (decode cX10_round 154 = .ok (.iload 4, 2)) && (decide (decode cX10_round 156 = .ok (.iadd, 1)) && (decide (decode cX10_round 157 = .ok (.iload 5, 2)) && (decide (decode cX10_round 159 = .ok (.iastore, 1)) && (decide (decode cX10_round 160 = .ok (.iinc 4 1, 3)) && (decide (decode cX10_round 163 = .ok (.goto (-112), 3)) && (decide (decode cX10_round 166 = .ok (.iinc 3 1, 3)) && (decide (decode cX10_round 169 = .ok (.goto (-127), 3)) && (decide (decode cX10_round 172 = .ok (.iconst 0, 1)))))))))))))))))))))))))))))))))) = true := by decide +kernel
theorem dX10_round_115 : decode cX10_round 115 = .ok (.iload_n 3, 1) := of_decide_eq_true (hb_l (kdX10_round_115))
theorem dX10_round_116 : decode cX10_round 116 = .ok (.imul, 1) := of_decide_eq_true (hb_l (hb_r (kdX10_round_115)))
theorem dX10_round_117 : decode cX10_round 117 = .ok (.iload 6, 2) := of_decide_eq_true (hb_l (hb_r (hb_r (kdX10_round_115))))
theorem dX10_round_119 : decode cX10_round 119 = .ok (.iadd, 1) := of_decide_eq_true (hb_l (hb_r (hb_r (hb_r (kdX10_round_115)))))
theorem dX10_round_120 : decode cX10_round 120 = .ok (.iaload, 1) := of_decide_eq_true (hb_l (hb_r (hb_r (hb_r (hb_r (kdX10_round_115))))))
theorem dX10_round_121 : decode cX10_round 121 = .ok (.aload_n 0, 1) := of_decide_eq_true (hb_l (hb_r (hb_r (hb_r (hb_r (hb_r (kdX10_round_115)))))))
theorem dX10_round_122 : decode cX10_round 122 = .ok (.getfield 100, 3) := of_decide_eq_true (hb_l (hb_r (hb_r (hb_r (hb_r (hb_r (hb_r (kdX10_round_115))))))))
theorem dX10_round_125 : decode cX10_round 125 = .ok (.bipush 13, 2) := of_decide_eq_true (hb_l (hb_r (hb_r (hb_r (hb_r (hb_r (hb_r (hb_r (kdX10_round_115)))))))))
theorem dX10_round_127 : decode cX10_round 127 = .ok (.iload 6, 2) := of_decide_eq_true (hb_l (hb_r (hb_r (hb_r (hb_r (hb_r (hb_r (hb_r (hb_r (kdX10_round_115))))))))))
theorem dX10_round_129 : decode cX10_round 129 = .ok (.imul, 1) := of_decide_eq_true (hb_l (hb_r (hb_r (hb_r (hb_r (hb_r (hb_r (hb_r (hb_r (hb_r (kdX10_round_115)))))))))))
theorem dX10_round_130 : decode cX10_round 130 = .ok (.iload 4, 2) := of_decide_eq_true (hb_l (hb_r (hb_r (hb_r (hb_r (hb_r (hb_r (hb_r (hb_r (hb_r (hb_r (kdX10_round_115))))))))))))
theorem dX10_round_132 : decode cX10_round 132 = .ok (.iadd, 1) := of_decide_eq_true (hb_l (hb_r (hb_r (hb_r (hb_r (hb_r (hb_r (hb_r (hb_r (hb_r (hb_r (hb_r (kdX10_round_115)))))))))))))
theorem dX10_round_133 : decode cX10_round 133 = .ok (.iaload, 1) := of_decide_eq_true (hb_l (hb_r (hb_r (hb_r (hb_r (hb_r (hb_r (hb_r (hb_r (hb_r (hb_r (hb_r (hb_r (kdX10_round_115))))))))))))))
theorem dX10_round_134 : decode cX10_round 134 = .ok (.iadd, 1) := of_decide_eq_true (hb_l (hb_r (hb_r (hb_r (hb_r (hb_r (hb_r (hb_r (hb_r (hb_r (hb_r (hb_r (hb_r (hb_r (kdX10_round_115)))))))))))))))
theorem dX10_round_135 : decode cX10_round 135 = .ok (.invokestatic 153, 3) := of_decide_eq_true (hb_l (hb_r (hb_r (hb_r (hb_r (hb_r (hb_r (hb_r (hb_r (hb_r (hb_r (hb_r (hb_r (hb_r (hb_r (kdX10_round_115))))))))))))))))
theorem dX10_round_138 : decode cX10_round 138 = .ok (.istore 5, 2) := of_decide_eq_true (hb_l (hb_r (hb_r (hb_r (hb_r (hb_r (hb_r (hb_r (hb_r (hb_r (hb_r (hb_r (hb_r (hb_r (hb_r (hb_r (kdX10_round_115)))))))))))))))))
theorem dX10_round_140 : decode cX10_round 140 = .ok (.iinc 6 1, 3) := of_decide_eq_true (hb_l (hb_r (hb_r (hb_r (hb_r (hb_r (hb_r (hb_r (hb_r (hb_r (hb_r (hb_r (hb_r (hb_r (hb_r (hb_r (hb_r (kdX10_round_115))))))))))))))))))
theorem dX10_round_143 : decode cX10_round 143 = .ok (.goto (-78), 3) := of_decide_eq_true (hb_l (hb_r (hb_r (hb_r (hb_r (hb_r (hb_r (hb_r (hb_r (hb_r (hb_r (hb_r (hb_r (hb_r (hb_r (hb_r (hb_r (hb_r (kdX10_round_115)))))))))))))))))))
theorem dX10_round_146 : decode cX10_round 146 = .ok (.aload_n 0, 1) := of_decide_eq_true (hb_l (hb_r (hb_r (hb_r (hb_r (hb_r (hb_r (hb_r (hb_r (hb_r (hb_r (hb_r (hb_r (hb_r (hb_r (hb_r (hb_r (hb_r (hb_r (kdX10_round_115))))))))))))))))))))
theorem dX10_round_147 : decode cX10_round 147 = .ok (.getfield 106, 3) := of_decide_eq_true (hb_l (hb_r (hb_r (hb_r (hb_r (hb_r (hb_r (hb_r (hb_r (hb_r (hb_r (hb_r (hb_r (hb_r (hb_r (hb_r (hb_r (hb_r (hb_r (hb_r (kdX10_round_115)))))))))))))))))))))
theorem dX10_round_150 : decode cX10_round 150 = .ok (.bipush 13, 2) := of_decide_eq_true (hb_l (hb_r (hb_r (hb_r (hb_r (hb_r (hb_r (hb_r (hb_r (hb_r (hb_r (hb_r (hb_r (hb_r (hb_r (hb_r (hb_r (hb_r (hb_r (hb_r (hb_r (kdX10_round_115))))))))))))))))))))))
theorem dX10_round_152 : decode cX10_round 152 = .ok (.iload_n 3, 1) := of_decide_eq_true (hb_l (hb_r (hb_r (hb_r (hb_r (hb_r (hb_r (hb_r (hb_r (hb_r (hb_r (hb_r (hb_r (hb_r (hb_r (hb_r (hb_r (hb_r (hb_r (hb_r (hb_r (hb_r (kdX10_round_115)))))))))))))))))))))))
theorem dX10_round_153 : decode cX10_round 153 = .ok (.imul, 1) := of_decide_eq_true (hb_l (hb_r (hb_r (hb_r (hb_r (hb_r (hb_r (hb_r (hb_r (hb_r (hb_r (hb_r (hb_r (hb_r (hb_r (hb_r (hb_r (hb_r (hb_r (hb_r (hb_r (hb_r (hb_r (kdX10_round_115))))))))))))))))))))))))
theorem dX10_round_154 : decode cX10_round 154 = .ok (.iload 4, 2) := of_decide_eq_true (hb_l (hb_r (hb_r (hb_r (hb_r (hb_r (hb_r (hb_r (hb_r (hb_r (hb_r (hb_r (hb_r (hb_r (hb_r (hb_r (hb_r (hb_r (hb_r (hb_r (hb_r (hb_r (hb_r (hb_r (kdX10_round_115)))))))))))))))))))))))))
theorem dX10_round_156 : decode cX10_round 156 = .ok (.iadd, 1) := of_decide_eq_true (hb_l (hb_r (hb_r (hb_r (hb_r (hb_r (hb_r (hb_r (hb_r (hb_r (hb_r (hb_r (hb_r (hb_r (hb_r (hb_r (hb_r (hb_r (hb_r (hb_r (hb_r (hb_r (hb_r (hb_r (hb_r (kdX10_round_115))))))))))))))))))))))))))
theorem dX10_round_157 : decode cX10_round 157 = .ok (.iload 5, 2) := of_decide_eq_true (hb_l (hb_r (hb_r (hb_r (hb_r (hb_r (hb_r (hb_r (hb_r (hb_r (hb_r (hb_r (hb_r (hb_r (hb_r (hb_r (hb_r (hb_r (hb_r (hb_r (hb_r (hb_r (hb_r (hb_r (hb_r (hb_r (kdX10_round_115)))))))))))))))))))))))))))
theorem dX10_round_159 : decode cX10_round 159 = .ok (.iastore, 1) := of_decide_eq_true (hb_l (hb_r (hb_r (hb_r (hb_r (hb_r (hb_r (hb_r (hb_r (hb_r (hb_r (hb_r (hb_r (hb_r (hb_r (hb_r (hb_r (hb_r (hb_r (hb_r (hb_r (hb_r (hb_r (hb_r (hb_r (hb_r (hb_r (kdX10_round_115))))))))))))))))))))))))))))
theorem dX10_round_160 : decode cX10_round 160 = .ok (.iinc 4 1, 3) := of_decide_eq_true (hb_l (hb_r (hb_r (hb_r (hb_r (hb_r (hb_r (hb_r (hb_r (hb_r (hb_r (hb_r (hb_r (hb_r (hb_r (hb_r (hb_r (hb_r (hb_r (hb_r (hb_r (hb_r (hb_r (hb_r (hb_r (hb_r (hb_r (hb_r (kdX10_round_115)))))))))))))))))))))))))))))
theorem dX10_round_163 : decode cX10_round 163 = .ok (.goto (-112), 3) := of_decide_eq_true (hb_l (hb_r (hb_r (hb_r (hb_r (hb_r (hb_r (hb_r (hb_r (hb_r (hb_r (hb_r (hb_r (hb_r (hb_r (hb_r (hb_r (hb_r (hb_r (hb_r (hb_r (hb_r (hb_r (hb_r (hb_r (hb_r (hb_r (hb_r (hb_r (kdX10_round_115))))))))))))))))))))))))))))))
theorem dX10_round_166 : decode cX10_round 166 = .ok (.iinc 3 1, 3) := of_decide_eq_true (hb_l (hb_r (hb_r (hb_r (hb_r (hb_r (hb_r (hb_r (hb_r (hb_r (hb_r (hb_r (hb_r (hb_r (hb_r (hb_r (hb_r (hb_r (hb_r (hb_r (hb_r (hb_r (hb_r (hb_r (hb_r (hb_r (hb_r (hb_r (hb_r (hb_r (kdX10_round_115)))))))))))))))))))))))))))))))
theorem dX10_round_169 : decode cX10_round 169 = .ok (.goto (-127), 3) := of_decide_eq_true (hb_l (hb_r (hb_r (hb_r (hb_r (hb_r (hb_r (hb_r (hb_r (hb_r (hb_r (hb_r (hb_r (hb_r (hb_r (hb_r (hb_r (hb_r (hb_r (hb_r (hb_r (hb_r (hb_r (hb_r (hb_r (hb_r (hb_r (hb_r (hb_r (hb_r (hb_r (kdX10_round_115))))))))))))))))))))))))))))))))
theorem dX10_round_172 : decode cX10_round 172 = .ok (.iconst 0, 1) := of_decide_eq_true (hb_r (hb_r (hb_r (hb_r (hb_r (hb_r (hb_r (hb_r (hb_r (hb_r (hb_r (hb_r (hb_r (hb_r (hb_r (hb_r (hb_r (hb_r (hb_r (hb_r (hb_r (hb_r (hb_r (hb_r (hb_r (hb_r (hb_r (hb_r (hb_r (hb_r (hb_r (kdX10_round_115))))))))))))))))))))))))))))))))
theorem kdX10_round_173 : (decide (decode cX10_round 173 = .ok (.istore_n 3, 1)) && (decide (decode cX10_round 174 = .ok (.iload_n 3, 1)) && (decide (decode cX10_round 175 = .ok (.sipush 169, 3)) && (decide (decode cX10_round 178 = .ok (.if_icmp .ge 21, 3)) && (decide (decode cX10_round 181 = .ok (.aload_n 0, 1)) && (decide (decode cX10_round 182 = .ok (.getfield 103, 3)) && (decide (decode cX10_round 185 = .ok (.iload_n 3, 1)) && (decide (decode cX10_round 186 = .ok (.aload_n 0, 1)) && (decide (decode cX10_round 187 = .ok (.getfield 106, 3)) && (decide (decode cX10_round 190 = .ok (.iload_n 3, 1)) && (decide (decode cX10_round 191 = .ok (.iaload, 1)) && (decide (decode cX10_round 192 = .ok (.iastore, 1)) && (decide (decode cX10_round 193 = .ok (.iinc 3 1, 3)) && (decide (decode cX10_round 196 = .ok (.goto (-22), 3)) && (decide (decode cX10_round 199 = .ok (.iconst 0, 1)) && (decide (decode cX10_round 200 = .ok (.istore_n 3, 1)) && (decide (decode cX10_round 201 = .ok (.iload_n 3, 1)) && (decide (decode cX10_round 202 = .ok (.bipush 13, 2)) && (decide (decode cX10_round 204 = .ok (.if_icmp .ge 25, 3)) && (decide (decode cX10_round 207 = .ok (.aload_n 0, 1)) && (decide (decode cX10_round 208 = .ok (.getfield 103, 3)) && (decide (decode cX10_round 211 = .ok (.bipush 13, 2)) && (decide (decode cX10_round 213 = .ok (.iload_n 3, 1)) && (decide (decode cX10_round 214 = .ok (.imul, 1)) && (decide (decode cX10_round 215 = .ok (.iload_n 3, 1)) && (decide (decode cX10_round 216 = .ok (.iadd, 1)) && (decide (decode cX10_round 217 = .ok (.iaload, 1)) && (decide (decode cX10_round 218 = .ok (.ifCond .le 5, 3)) && (decide (decode cX10_round 221 = .ok (.iload_n 2, 1)) && (decide (decode cX10_round 222 = .ok (.ireturn, 1)) && (decide (decode cX10_round 223 = .ok (.iinc 3 1, 3)) && (decide (decode cX10_round 226 = .ok (.goto (-25), 3)))))))))))))))))))))))))))))))))) = true := by decide +kernel
theorem dX10_round_173 : decode cX10_round 173 = .ok (.istore_n 3, 1) := of_decide_eq_true (hb_l (kdX10_round_173))
theorem dX10_round_174 : decode cX10_round 174 = .ok (.iload_n 3, 1) := of_decide_eq_true (hb_l (hb_r (kdX10_round_173)))
theorem dX10_round_175 : decode cX10_round 175 = .ok (.sipush 169, 3) := of_decide_eq_true (hb_l (hb_r (hb_r (kdX10_round_173))))
theorem dX10_round_178 : decode cX10_round 178 = .ok (.if_icmp .ge 21, 3) := of_decide_eq_true (hb_l (hb_r (hb_r (hb_r (kdX10_round_173)))))
theorem dX10_round_181 : decode cX10_round 181 = .ok (.aload_n 0, 1) := of_decide_eq_true (hb_l (hb_r (hb_r (hb_r (hb_r (kdX10_round_173))))))
theorem dX10_round_182 : decode cX10_round 182 = .ok (.getfield 103, 3) := of_decide_eq_true (hb_l (hb_r (hb_r (hb_r (hb_r (hb_r (kdX10_round_173)))))))
theorem dX10_round_185 : decode cX10_round 185 = .ok (.iload_n 3, 1) := of_decide_eq_true (hb_l (hb_r (hb_r (hb_r (hb_r (hb_r (hb_r (kdX10_round_173))))))))
theorem dX10_round_186 : decode cX10_round 186 = .ok (.aload_n 0, 1) := of_decide_eq_true (hb_l (hb_r (hb_r (hb_r (hb_r (hb_r (hb_r (hb_r (kdX10_round_173)))))))))
theorem dX10_round_187 : decode cX10_round 187 = .ok (.getfield 106, 3) := of_decide_eq_true (hb_l (hb_r (hb_r (hb_r (hb_r (hb_r (hb_r (hb_r (hb_r (kdX10_round_173))))))))))
theorem dX10_round_190 : decode cX10_round 190 = .ok (.iload_n 3, 1) := of_decide_eq_true (hb_l (hb_r (hb_r (hb_r (hb_r (hb_r (hb_r (hb_r (hb_r (hb_r (kdX10_round_173)))))))))))
theorem dX10_round_191 : decode cX10_round 191 = .ok (.iaload, 1) := of_decide_eq_true (hb_l (hb_r (hb_r (hb_r (hb_r (hb_r (hb_r (hb_r (hb_r (hb_r (hb_r (kdX10_round_173))))))))))))
theorem dX10_round_192 : decode cX10_round 192 = .ok (.iastore, 1) := of_decide_eq_true (hb_l (hb_r (hb_r (hb_r (hb_r (hb_r (hb_r (hb_r (hb_r (hb_r (hb_r (hb_r (kdX10_round_173)))))))))))))
theorem dX10_round_193 : decode cX10_round 193 = .ok (.iinc 3 1, 3) := of_decide_eq_true (hb_l (hb_r (hb_r (hb_r (hb_r (hb_r (hb_r (hb_r (hb_r (hb_r (hb_r (hb_r (hb_r (kdX10_round_173))))))))))))))
theorem dX10_round_196 : decode cX10_round 196 = .ok (.goto (-22), 3) := of_decide_eq_true (hb_l (hb_r (hb_r (hb_r (hb_r (hb_r (hb_r (hb_r (hb_r (hb_r (hb_r (hb_r (hb_r (hb_r (kdX10_round_173)))))))))))))))
theorem dX10_round_199 : decode cX10_round 199 = .ok (.iconst 0, 1) := of_decide_eq_true (hb_l (hb_r (hb_r (hb_r (hb_r (hb_r (hb_r (hb_r (hb_r (hb_r (hb_r (hb_r (hb_r (hb_r (hb_r (kdX10_round_173))))))))))))))))
theorem dX10_round_200 : decode cX10_round 200 = .ok (.istore_n 3, 1) := of_decide_eq_true (hb_l (hb_r (hb_r (hb_r (hb_r (hb_r (hb_r (hb_r (hb_r (hb_r (hb_r (hb_r (hb_r (hb_r (hb_r (hb_r (kdX10_round_173)))))))))))))))))
theorem dX10_round_201 : decode cX10_round 201 = .ok (.iload_n 3, 1) := of_decide_eq_true (hb_l (hb_r (hb_r (hb_r (hb_r (hb_r (hb_r (hb_r (hb_r (hb_r (hb_r (hb_r (hb_r (hb_r (hb_r (hb_r (hb_r (kdX10_round_173))))))))))))))))))
theorem dX10_round_202 : decode cX10_round 202 = .ok (.bipush 13, 2) := of_decide_eq_true (hb_l (hb_r (hb_r (hb_r (hb_r (hb_r (hb_r (hb_r (hb_r (hb_r (hb_r (hb_r (hb_r (hb_r (hb_r (hb_r (hb_r (hb_r (kdX10_round_173)))))))))))))))))))
theorem dX10_round_204 : decode cX10_round 204 = .ok (.if_icmp .ge 25, 3) := of_decide_eq_true (hb_l (hb_r (hb_r (hb_r (hb_r (hb_r (hb_r (hb_r (hb_r (hb_r (hb_r (hb_r (hb_r (hb_r (hb_r (hb_r (hb_r (hb_r (hb_r (kdX10_round_173))))))))))))))))))))
theorem dX10_round_207 : decode cX10_round 207 = .ok (.aload_n 0, 1) := of_decide_eq_true (hb_l (hb_r (hb_r (hb_r (hb_r (hb_r (hb_r (hb_r (hb_r (hb_r (hb_r (hb_r (hb_r (hb_r (hb_r (hb_r (hb_r (hb_r (hb_r (hb_r (kdX10_round_173)))))))))))))))))))))
theorem dX10_round_208 : decode cX10_round 208 = .ok (.getfield 103, 3) := of_decide_eq_true (hb_l (hb_r (hb_r (hb_r (hb_r (hb_r (hb_r (hb_r (hb_r (hb_r (hb_r (hb_r (hb_r (hb_r (hb_r (hb_r (hb_r (hb_r (hb_r (hb_r (hb_r (kdX10_round_173))))))))))))))))))))))
theorem dX10_round_211 : decode cX10_round 211 = .ok (.bipush 13, 2) := of_decide_eq_true (hb_l (hb_r (hb_r (hb_r (hb_r (hb_r (hb_r (hb_r (hb_r (hb_r (hb_r (hb_r (hb_r (hb_r (hb_r (hb_r (hb_r (hb_r (hb_r (hb_r (hb_r (hb_r (kdX10_round_173)))))))))))))))))))))))
theorem dX10_round_213 : decode cX10_round 213 = .ok (.iload_n 3, 1) := of_decide_eq_true (hb_l (hb_r (hb_r (hb_r (hb_r (hb_r (hb_r (hb_r (hb_r (hb_r (hb_r (hb_r (hb_r (hb_r (hb_r (hb_r (hb_r (hb_r (hb_r (hb_r (hb_r (hb_r (hb_r (kdX10_round_173))))))))))))))))))))))))
theorem dX10_round_214 : decode cX10_round 214 = .ok (.imul, 1) := of_decide_eq_true (hb_l (hb_r (hb_r (hb_r (hb_r (hb_r (hb_r (hb_r (hb_r (hb_r (hb_r (hb_r (hb_r (hb_r (hb_r (hb_r (hb_r (hb_r (hb_r (hb_r (hb_r (hb_r (hb_r (hb_r (kdX10_round_173)))))))))))))))))))))))))
theorem dX10_round_215 : decode cX10_round 215 = .ok (.iload_n 3, 1) := of_decide_eq_true (hb_l (hb_r (hb_r (hb_r (hb_r (hb_r (hb_r (hb_r (hb_r (hb_r (hb_r (hb_r (hb_r (hb_r (hb_r (hb_r (hb_r (hb_r (hb_r (hb_r (hb_r (hb_r (hb_r (hb_r (hb_r (kdX10_round_173))))))))))))))))))))))))))
theorem dX10_round_216 : decode cX10_round 216 = .ok (.iadd, 1) := of_decide_eq_true (hb_l (hb_r (hb_r (hb_r (hb_r (hb_r (hb_r (hb_r (hb_r (hb_r (hb_r (hb_r (hb_r (hb_r (hb_r (hb_r (hb_r (hb_r (hb_r (hb_r (hb_r (hb_r (hb_r (hb_r (hb_r (hb_r (kdX10_round_173)))))))))))))))))))))))))))
theorem dX10_round_217 : decode cX10_round 217 = .ok (.iaload, 1) := of_decide_eq_true (hb_l (hb_r (hb_r (hb_r (hb_r (hb_r (hb_r (hb_r (hb_r (hb_r (hb_r (hb_r (hb_r (hb_r (hb_r (hb_r (hb_r (hb_r (hb_r (hb_r (hb_r (hb_r (hb_r (hb_r (hb_r (hb_r (hb_r (kdX10_round_173))))))))))))))))))))))))))))
theorem dX10_round_218 : decode cX10_round 218 = .ok (.ifCond .le 5, 3) := of_decide_eq_true (hb_l (hb_r (hb_r (hb_r (hb_r (hb_r (hb_r (hb_r (hb_r (hb_r (hb_r (hb_r (hb_r (hb_r (hb_r (hb_r (hb_r (hb_r (hb_r (hb_r (hb_r (hb_r (hb_r (hb_r (hb_r (hb_r (hb_r (hb_r (kdX10_round_173)))))))))))))))))))))))))))))
theorem dX10_round_221 : decode cX10_round 221 = .ok (.iload_n 2, 1) := of_decide_eq_true (hb_l (hb_r (hb_r (hb_r (hb_r (hb_r (hb_r (hb_r (hb_r (hb_r (hb_r (hb_r (hb_r (hb_r (hb_r (hb_r (hb_r (hb_r (hb_r (hb_r (hb_r (hb_r (hb_r (hb_r (hb_r (hb_r (hb_r (hb_r (hb_r (kdX10_round_173))))))))))))))))))))))))))))))
theorem dX10_round_222 : decode cX10_round 222 = .ok (.ireturn, 1) := of_decide_eq_true (hb_l (hb_r (hb_r (hb_r (hb_r (hb_r (hb_r (hb_r (hb_r (hb_r (hb_r (hb_r (hb_r (hb_r (hb_r (hb_r (hb_r (hb_r (hb_r (hb_r (hb_r (hb_r (hb_r (hb_r (hb_r (hb_r (hb_r (hb_r (hb_r (hb_r (kdX10_round_173)))))))))))))))))))))))))))))))
theorem dX10_round_223 : decode cX10_round 223 = .ok (.iinc 3 1, 3) := of_decide_eq_true (hb_l (hb_r (hb_r (hb_r (hb_r (hb_r (hb_r (hb_r (hb_r (hb_r (hb_r (hb_r (hb_r (hb_r (hb_r (hb_r (hb_r (hb_r (hb_r (hb_r (hb_r (hb_r (hb_r (hb_r (hb_r (hb_r (hb_r (hb_r (hb_r (hb_r (hb_r (kdX10_round_173))))))))))))))))))))))))))))))))
theorem dX10_round_226 : decode cX10_round 226 = .ok (.goto (-25), 3) := of_decide_eq_true (hb_r (hb_r (hb_r (hb_r (hb_r (hb_r (hb_r (hb_r (hb_r (hb_r (hb_r (hb_r (hb_r (hb_r (hb_r (hb_r (hb_r (hb_r (hb_r (hb_r (hb_r (hb_r (hb_r (hb_r (hb_r (hb_r (hb_r (hb_r (hb_r (hb_r (hb_r (kdX10_round_173))))))))))))))))))))))))))))))))
theorem kdX10_round_229 : (decide (decode cX10_round 229 = .ok (.iinc 2 1, 3)) && (decide (decode cX10_round 232 = .ok (.goto (-198), 3)) && (decide (decode cX10_round 235 = .ok (.iconst 0, 1)) && (decide (decode cX10_round 236 = .ok (.ireturn, 1)))))) = true := by decide +kernel
theorem dX10_round_229 : decode cX10_round 229 = .ok (.iinc 2 1, 3) := of_decide_eq_true (hb_l (kdX10_round_229))
theorem dX10_round_232 : decode cX10_round 232 = .ok (.goto (-198), 3) := of_decide_eq_true (hb_l (hb_r (kdX10_round_229)))
theorem dX10_round_235 : decode cX10_round 235 = .ok (.iconst 0, 1) := of_decide_eq_true (hb_l (hb_r (hb_r (kdX10_round_229))))
theorem dX10_round_236 : decode cX10_round 236 = .ok (.ireturn, 1) := of_decide_eq_true (hb_r (hb_r (hb_r (kdX10_round_229))))
set_option maxRecDepth 20000 in
theorem ggX10_agree_X10_round : GoodIn wsX10_agree wsX10_round := goodIn_sub (xc (xt1 (xl (xt4 (xt1 (xh))))) (xa (xc (xt1 (xl (xt4 (xt1 (xt1 (xh)))))) (xc (xt1 (xl (xt4 (xt1 (xt1 (xt1 (xh))))))) (xc (xt1 (xl (xt4 (xt4 (xh))))) (xc (xt1 (xl (xt4 (xt4 (xt1 (xh)))))) (xc (xt1 (xl (xt4 (xt4 (xt1 (xt1 (xh))))))) (xc (xt1 (xl (xt4 (xt4 (xt1 (xt1 (xt1 (xh)))))))) (xc (xt1 (xl (xt4 (xt4 (xt4 (xh)))))) (xc (xt1 (xl (xt4 (xt4 (xt4 (xt1 (xh))))))) (xc (xt1 (xl (xt4 (xt4 (xt4 (xt1 (xt1 (xh)))))))) (xc (xt1 (xl (xt4 (xt4 (xt4 (xt1 (xt1 (xt1 (xh))))))))) (xc (xt1 (xl (xt16 (xh)))) (xc (xt1 (xl (xt4 (xh)))) (xc (xt1 (xl (xt16 (xt1 (xh))))) (xc (xt1 (xl (xt16 (xt1 (xt1 (xh)))))) (xc (xt1 (xl (xt16 (xt1 (xt1 (xt1 (xh))))))) (xc (xt1 (xl (xt16 (xt4 (xh))))) (xc (xt1 (xl (xt16 (xt4 (xt1 (xh)))))) (xc (xt1 (xl (xt16 (xt4 (xt1 (xt1 (xh))))))) (xc (xt1 (xl (xt16 (xt4 (xt1 (xt1 (xt1 (xh)))))))) (xn)))))))))))))))))))) (fun _ h => xt1 (xr (h))))) (by decide +kernel)
set_option maxRecDepth 20000 in
theorem gX10_agree_X10_round : GoodIn wsX10_agree (wsV RX10 238 RX10 yX10_round wsX10_round) := goodIn_app (goodIn_sub (xc (xt1 (xl (xt1 (xh)))) (xc (xt1 (xl (xt1 (xt1 (xh))))) (xc (xt1 (xl (xt1 (xt1 (xt1 (xh)))))) (xc (xt1 (xl (xt4 (xh)))) (xn))))) (by decide +kernel)) ggX10_agree_X10_round
theorem dX10_agree_0 : decode cX10_agree 0 = .ok (.aload_n 0, 1) := by decide +kernel
theorem dX10_agree_1 : decode cX10_agree 1 = .ok (.iconst 0, 1) := by decide +kernel
theorem dX10_agree_2 : decode cX10_agree 2 = .ok (.putfield 109, 3) := by decide +kernel
theorem dX10_agree_5 : decode cX10_agree 5 = .ok (.aload_n 0, 1) := by decide +kernel
theorem dX10_agree_6 : decode cX10_agree 6 = .ok (.iload_n 1, 1) := by decide +kernel
theorem dX10_agree_7 : decode cX10_agree 7 = .ok (.invokevirtual 238, 3) := by decide +kernel
theorem dX10_agree_10 : decode cX10_agree 10 = .ok (.ifCond .ne 7, 3) := by decide +kernel
theorem dX10_agree_13 : decode cX10_agree 13 = .ok (.iconst 1, 1) := by decide +kernel
theorem dX10_agree_14 : decode cX10_agree 14 = .ok (.goto 4, 3) := by decide +kernel
theorem dX10_agree_17 : decode cX10_agree 17 = .ok (.iconst 0, 1) := by decide +kernel
theorem dX10_agree_18 : decode cX10_agree 18 = .ok (.ireturn, 1) := by decide +kernel
set_option maxRecDepth 20000 in
theorem ggX10_quarrel_X10_round : GoodIn wsX10_quarrel wsX10_round := goodIn_sub (xc (xt1 (xl (xt4 (xt1 (xh))))) (xa (xc (xt1 (xl (xt4 (xt1 (xt1 (xh)))))) (xc (xt1 (xl (xt4 (xt1 (xt1 (xt1 (xh))))))) (xc (xt1 (xl (xt4 (xt4 (xh))))) (xc (xt1 (xl (xt4 (xt4 (xt1 (xh)))))) (xc (xt1 (xl (xt4 (xt4 (xt1 (xt1 (xh))))))) (xc (xt1 (xl (xt4 (xt4 (xt1 (xt1 (xt1 (xh)))))))) (xc (xt1 (xl (xt4 (xt4 (xt4 (xh)))))) (xc (xt1 (xl (xt4 (xt4 (xt4 (xt1 (xh))))))) (xc (xt1 (xl (xt4 (xt4 (xt4 (xt1 (xt1 (xh)))))))) (xc (xt1 (xl (xt4 (xt4 (xt4 (xt1 (xt1 (xt1 (xh))))))))) (xc (xt1 (xl (xt16 (xh)))) (xc (xt1 (xl (xt4 (xh)))) (xc (xt1 (xl (xt16 (xt1 (xh))))) (xc (xt1 (xl (xt16 (xt1 (xt1 (xh)))))) (xc (xt1 (xl (xt16 (xt1 (xt1 (xt1 (xh))))))) (xc (xt1 (xl (xt16 (xt4 (xh))))) (xc (xt1 (xl (xt16 (xt4 (xt1 (xh)))))) (xc (xt1 (xl (xt16 (xt4 (xt1 (xt1 (xh))))))) (xc (xt1 (xl (xt16 (xt4 (xt1 (xt1 (xt1 (xh)))))))) (xn)))))))))))))))))))) (fun _ h => xt1 (xr (h))))) (by decide +kernel)
set_option maxRecDepth 20000 in
theorem gX10_quarrel_X10_round : GoodIn wsX10_quarrel (wsV RX10 238 RX10 yX10_round wsX10_round) := goodIn_app (goodIn_sub (xc (xt1 (xl (xt1 (xh)))) (xc (xt1 (xl (xt1 (xt1 (xh))))) (xc (xt1 (xl (xt1 (xt1 (xt1 (xh)))))) (xc (xt1 (xl (xt4 (xh)))) (xn))))) (by decide +kernel)) ggX10_quarrel_X10_round
theorem dX10_quarrel_0 : decode cX10_quarrel 0 = .ok (.aload_n 0, 1) := by decide +kernel
theorem dX10_quarrel_1 : decode cX10_quarrel 1 = .ok (.iconst 0, 1) := by decide +kernel
theorem dX10_quarrel_2 : decode cX10_quarrel 2 = .ok (.putfield 109, 3) := by decide +kernel
theorem dX10_quarrel_5 : decode cX10_quarrel 5 = .ok (.aload_n 0, 1) := by decide +kernel
theorem dX10_quarrel_6 : decode cX10_quarrel 6 = .ok (.iload_n 1, 1) := by decide +kernel
theorem dX10_quarrel_7 : decode cX10_quarrel 7 = .ok (.invokevirtual 238, 3) := by decide +kernel
theorem dX10_quarrel_10 : decode cX10_quarrel 10 = .ok (.ireturn, 1) := by decide +kernel
set_option maxRecDepth 20000 in
theorem ggX10_span_X10_noStamp : GoodIn wsX10_span wsX10_noStamp := goodIn_sub (xc (xt1 (xl (xl (xt4 (xt4 (xt1 (xt1 (xh)))))))) (xc (xt1 (xl (xl (xt4 (xt4 (xt1 (xt1 (xt1 (xh))))))))) (xc (xt1 (xl (xl (xt4 (xt4 (xt4 (xh))))))) (xc (xt1 (xl (xl (xt4 (xt4 (xt1 (xh))))))) (xc (xt1 (xl (xl (xt4 (xt4 (xt4 (xt1 (xh)))))))) (xn)))))) (by decide +kernel)
set_option maxRecDepth 20000 in
theorem gX10_span_X10_noStamp : GoodIn wsX10_span (va_wsS RX10 211 yX10_noStamp wsX10_noStamp) := goodIn_app (goodIn_sub (xc (xt1 (xl (xl (xt4 (xt1 (xt1 (xt1 (xh)))))))) (xc (xt1 (xl (xl (xt4 (xt4 (xh)))))) (xc (xt1 (xl (xl (xt4 (xt4 (xt1 (xh))))))) (xn)))) (by decide +kernel)) ggX10_span_X10_noStamp
set_option maxRecDepth 20000 in
theorem ggX10_span_X10_throwsIf : GoodIn wsX10_span wsX10_throwsIf := goodIn_sub (xc (xt1 (xl (xl (xt16 (xt1 (xh)))))) (xa (xc (xt1 (xl (xl (xh)))) (xn)) (fun _ h => xt1 (xr (h))))) (by decide +kernel)
set_option maxRecDepth 20000 in
theorem gX10_span_X10_throwsIf : GoodIn wsX10_span (wsV RX10 122 RX10 yX10_throwsIf wsX10_throwsIf) := goodIn_app (goodIn_sub (xc (xt1 (xl (xl (xt4 (xt4 (xt4 (xt1 (xt1 (xh))))))))) (xc (xt1 (xl (xl (xt4 (xt4 (xt4 (xt1 (xt1 (xt1 (xh)))))))))) (xc (xt1 (xl (xl (xt16 (xh))))) (xc (xt1 (xl (xl (xt4 (xt4 (xt1 (xh))))))) (xn))))) (by decide +kernel)) ggX10_span_X10_throwsIf
set_option maxRecDepth 20000 in
theorem ggX10_span_X10_round : GoodIn wsX10_span wsX10_round := goodIn_sub (xc (xt1 (xl (xl (xt16 (xt4 (xt1 (xh))))))) (xa (xc (xt1 (xl (xl (xt16 (xt4 (xt1 (xt1 (xh)))))))) (xc (xt1 (xl (xl (xt1 (xh))))) (xc (xt1 (xl (xl (xt1 (xt1 (xh)))))) (xc (xt1 (xl (xl (xt1 (xt1 (xt1 (xh))))))) (xc (xt1 (xl (xl (xt4 (xh))))) (xc (xt1 (xl (xl (xt4 (xt1 (xh)))))) (xc (xt1 (xl (xl (xt4 (xt1 (xt1 (xh))))))) (xc (xt1 (xl (xl (xt16 (xt4 (xt1 (xt1 (xt1 (xh))))))))) (xc (xt1 (xl (xr (xh)))) (xc (xt1 (xl (xr (xt1 (xh))))) (xc (xt1 (xl (xr (xt1 (xt1 (xh)))))) (xc (xt1 (xl (xl (xt4 (xt4 (xt1 (xh))))))) (xc (xt1 (xl (xr (xt1 (xt1 (xt1 (xh))))))) (xc (xt1 (xl (xr (xt4 (xh))))) (xc (xt1 (xl (xr (xt4 (xt1 (xh)))))) (xc (xt1 (xl (xr (xt4 (xt1 (xt1 (xh))))))) (xc (xt1 (xl (xr (xt4 (xt1 (xt1 (xt1 (xh)))))))) (xc (xt1 (xl (xr (xt4 (xt4 (xh)))))) (xc (xt1 (xl (xr (xt4 (xt4 (xt1 (xh))))))) (xn)))))))))))))))))))) (fun _ h => xt1 (xr (h))))) (by decide +kernel)
set_option maxRecDepth 20000 in
theorem gX10_span_X10_round : GoodIn wsX10_span (wsV RX10 238 RX10 yX10_round wsX10_round) := goodIn_app (goodIn_sub (xc (xt1 (xl (xl (xt16 (xt1 (xt1 (xh))))))) (xc (xt1 (xl (xl (xt16 (xt1 (xt1 (xt1 (xh)))))))) (xc (xt1 (xl (xl (xt16 (xt4 (xh)))))) (xc (xt1 (xl (xl (xt4 (xt4 (xt1 (xh))))))) (xn))))) (by decide +kernel)) ggX10_span_X10_round
theorem kdX10_span_0 : (decide (decode cX10_span 0 = .ok (.aload_n 0, 1)) && (decide (decode cX10_span 1 = .ok (.iconst 0, 1)) && (decide (decode cX10_span 2 = .ok (.putfield 109, 3)) && (decide (decode cX10_span 5 = .ok (.aload_n 0, 1)) && (decide (decode cX10_span 6 = .ok (.iload_n 1, 1)) && (decide (decode cX10_span 7 = .ok (.invokestatic 211, 3)) && (decide (decode cX10_span 10 = .ok (.iconst 1, 1)) && (decide (decode cX10_span 11 = .ok (.invokevirtual 122, 3)) && (decide (decode cX10_span 14 = .ok (.ifCond .ne 24, 3)) && (decide (decode cX10_span 17 = .ok (.aload_n 0, 1)) && (decide (decode cX10_span 18 = .ok (.aload_n 0, 1)) && (decide (decode cX10_span 19 = .ok (.iload_n 3, 1)) && (decide (decode cX10_span 20 = .ok (.invokevirtual 238, 3)) && (decide (decode cX10_span 23 = .ok (.ifCond .le 7, 3)) && (decide (decode cX10_span 26 = .ok (.iconst 1, 1)) && (decide (decode cX10_span 27 = .ok (.goto 4, 3)) && (decide (decode cX10_span 30 = .ok (.iconst 0, 1)) && (decide (decode cX10_span 31 = .ok (.iconst 2, 1)) && (decide (decode cX10_span 32 = .ok (.invokevirtual 122, 3)) && (decide (decode cX10_span 35 = .ok (.ifCond .eq 5, 3)) && (decide (decode cX10_span 38 = .ok (.iconst 0, 1)) && (decide (decode cX10_span 39 = .ok (.ireturn, 1)) && (decide (decode cX10_span 40 = .ok (.iconst 0, 1)) && (decide (decode cX10_span 41 = .ok (.istore 4, 2)) && (decide (decode cX10_span 43 = .ok (.iload 4, 2)) && (decide (decode cX10_span 45 = .ok (.bipush 13, 2)) && (decide (decode cX10_span 47 = .ok (.if_icmp .ge 119, 3)) && (decide (decode cX10_span 50 = .ok (.iconst 0, 1)) && (decide (decode cX10_span 51 = .ok (.istore 5, 2)) && (decide (decode cX10_span 53 = .ok (.iload 5, 2)) && (decide (decode cX10_span 55 = .ok (.bipush 13, 2)) && (decide (decode cX10_span 57 = .ok (.if_icmp .ge 103, 3)))))))))))))))))))))))))))))))))) = true := by decide +kernel
theorem dX10_span_0 : decode cX10_span 0 = .ok (.aload_n 0, 1) := of_decide_eq_true (hb_l (kdX10_span_0))
theorem dX10_span_1 : decode cX10_span 1 = .ok (.iconst 0, 1) := of_decide_eq_true (hb_l (hb_r (kdX10_span_0)))
theorem dX10_span_2 : decode cX10_span 2 = .ok (.putfield 109, 3) := of_decide_eq_true (hb_l (hb_r (hb_r (kdX10_span_0))))
theorem dX10_span_5 : decode cX10_span 5 = .ok (.aload_n 0, 1) := of_decide_eq_true (hb_l (hb_r (hb_r (hb_r (kdX10_span_0)))))
theorem dX10_span_6 : decode cX10_span 6 = .ok (.iload_n 1, 1) := of_decide_eq_true (hb_l (hb_r (hb_r (hb_r (hb_r (kdX10_span_0))))))
theorem dX10_span_7 : decode cX10_span 7 = .ok (.invokestatic 211, 3) := of_decide_eq_true (hb_l (hb_r (hb_r (hb_r (hb_r (hb_r (kdX10_span_0)))))))
theorem dX10_span_10 : decode cX10_span 10 = .ok (.iconst 1, 1) := of_decide_eq_true (hb_l (hb_r (hb_r (hb_r (hb_r (hb_r (hb_r (kdX10_span_0))))))))
theorem dX10_span_11 : decode cX10_span 11 = .ok (.invokevirtual 122, 3) := of_decide_eq_true (hb_l (hb_r (hb_r (hb_r (hb_r (hb_r (hb_r (hb_r (kdX10_span_0)))))))))
theorem dX10_span_14 : decode cX10_span 14 = .ok (.ifCond .ne 24, 3) := of_decide_eq_true (hb_l (hb_r (hb_r (hb_r (hb_r (hb_r (hb_r (hb_r (hb_r (kdX10_span_0))))))))))
theorem dX10_span_17 : decode cX10_span 17 = .ok (.aload_n 0, 1) := of_decide_eq_true (hb_l (hb_r (hb_r (hb_r (hb_r (hb_r (hb_r (hb_r (hb_r (hb_r (kdX10_span_0)))))))))))
theorem dX10_span_18 : decode cX10_span 18 = .ok (.aload_n 0, 1) := of_decide_eq_true (hb_l (hb_r (hb_r (hb_r (hb_r (hb_r (hb_r (hb_r (hb_r (hb_r (hb_r (kdX10_span_0))))))))))))
theorem dX10_span_19 : decode cX10_span 19 = .ok (.iload_n 3, 1) := of_decide_eq_true (hb_l (hb_r (hb_r (hb_r (hb_r (hb_r (hb_r (hb_r (hb_r (hb_r (hb_r (hb_r (kdX10_span_0)))))))))))))
theorem dX10_span_20 : decode cX10_span 20 = .ok (.invokevirtual 238, 3) := of_decide_eq_true (hb_l (hb_r (hb_r (hb_r (hb_r (hb_r (hb_r (hb_r (hb_r (hb_r (hb_r (hb_r (hb_r (kdX10_span_0))))))))))))))
theorem dX10_span_23 : decode cX10_span 23 = .ok (.ifCond .le 7, 3) := of_decide_eq_true (hb_l (hb_r (hb_r (hb_r (hb_r (hb_r (hb_r (hb_r (hb_r (hb_r (hb_r (hb_r (hb_r (hb_r (kdX10_span_0)))))))))))))))
theorem dX10_span_26 : decode cX10_span 26 = .ok (.iconst 1, 1) := of_decide_eq_true (hb_l (hb_r (hb_r (hb_r (hb_r (hb_r (hb_r (hb_r (hb_r (hb_r (hb_r (hb_r (hb_r (hb_r (hb_r (kdX10_span_0))))))))))))))))
theorem dX10_span_27 : decode cX10_span 27 = .ok (.goto 4, 3) := of_decide_eq_true (hb_l (hb_r (hb_r (hb_r (hb_r (hb_r (hb_r (hb_r (hb_r (hb_r (hb_r (hb_r (hb_r (hb_r (hb_r (hb_r (kdX10_span_0)))))))))))))))))
theorem dX10_span_30 : decode cX10_span 30 = .ok (.iconst 0, 1) := of_decide_eq_true (hb_l (hb_r (hb_r (hb_r (hb_r (hb_r (hb_r (hb_r (hb_r (hb_r (hb_r (hb_r (hb_r (hb_r (hb_r (hb_r (hb_r (kdX10_span_0))))))))))))))))))
theorem dX10_span_31 : decode cX10_span 31 = .ok (.iconst 2, 1) := of_decide_eq_true (hb_l (hb_r (hb_r (hb_r (hb_r (hb_r (hb_r (hb_r (hb_r (hb_r (hb_r (hb_r (hb_r (hb_r (hb_r (hb_r (hb_r (hb_r (kdX10_span_0)))))))))))))))))))
theorem dX10_span_32 : decode cX10_span 32 = .ok (.invokevirtual 122, 3) := of_decide_eq_true (hb_l (hb_r (hb_r (hb_r (hb_r (hb_r (hb_r (hb_r (hb_r (hb_r (hb_r (hb_r (hb_r (hb_r (hb_r (hb_r (hb_r (hb_r (hb_r (kdX10_span_0))))))))))))))))))))
theorem dX10_span_35 : decode cX10_span 35 = .ok (.ifCond .eq 5, 3) := of_decide_eq_true (hb_l (hb_r (hb_r (hb_r (hb_r (hb_r (hb_r (hb_r (hb_r (hb_r (hb_r (hb_r (hb_r (hb_r (hb_r (hb_r (hb_r (hb_r (hb_r (hb_r (kdX10_span_0)))))))))))))))))))))
theorem dX10_span_38 : decode cX10_span 38 = .ok (.iconst 0, 1) := of_decide_eq_true (hb_l (hb_r (hb_r (hb_r (hb_r (hb_r (hb_r (hb_r (hb_r (hb_r (hb_r (hb_r (hb_r (hb_r (hb_r (hb_r (hb_r (hb_r (hb_r (hb_r (hb_r (kdX10_span_0))))))))))))))))))))))
theorem dX10_span_39 : decode cX10_span 39 = .ok (.ireturn, 1) := of_decide_eq_true (hb_l (hb_r (hb_r (hb_r (hb_r (hb_r (hb_r (hb_r (hb_r (hb_r (hb_r (hb_r (hb_r (hb_r (hb_r (hb_r (hb_r (hb_r (hb_r (hb_r (hb_r (hb_r (kdX10_span_0)))))))))))))))))))))))
theorem dX10_span_40 : decode cX10_span 40 = .ok (.iconst 0, 1) := of_decide_eq_true (hb_l (hb_r (hb_r (hb_r (hb_r (hb_r (hb_r (hb_r (hb_r (hb_r (hb_r (hb_r (hb_r (hb_r (hb_r (hb_r (hb_r (hb_r (hb_r (hb_r (hb_r (hb_r (hb_r (kdX10_span_0))))))))))))))))))))))))
theorem dX10_span_41 : decode cX10_span 41 = .ok (.istore 4, 2) := of_decide_eq_true (hb_l (hb_r (hb_r (hb_r (hb_r (hb_r (hb_r (hb_r (hb_r (hb_r (hb_r (hb_r (hb_r (hb_r (hb_r (hb_r (hb_r (hb_r (hb_r (hb_r (hb_r (hb_r (hb_r (hb_r (kdX10_span_0)))))))))))))))))))))))))
theorem dX10_span_43 : decode cX10_span 43 = .ok (.iload 4, 2) := of_decide_eq_true (hb_l (hb_r (hb_r (hb_r (hb_r (hb_r (hb_r (hb_r (hb_r (hb_r (hb_r (hb_r (hb_r (hb_r (hb_r (hb_r (hb_r (hb_r (hb_r (hb_r (hb_r (hb_r (hb_r (hb_r (hb_r (kdX10_span_0))))))))))))))))))))))))))
theorem dX10_span_45 : decode cX10_span 45 = .ok (.bipush 13, 2) := of_decide_eq_true (hb_l (hb_r (hb_r (hb_r (hb_r (hb_r (hb_r (hb_r (hb_r (hb_r (hb_r (hb_r (hb_r (hb_r (hb_r (hb_r (hb_r (hb_r (hb_r (hb_r (hb_r (hb_r (hb_r (hb_r (hb_r (hb_r (kdX10_span_0)))))))))))))))))))))))))))
theorem dX10_span_47 : decode cX10_span 47 = .ok (.if_icmp .ge 119, 3) := of_decide_eq_true (hb_l (hb_r (hb_r (hb_r (hb_r (hb_r (hb_r (hb_r (hb_r (hb_r (hb_r (hb_r (hb_r (hb_r (hb_r (hb_r (hb_r (hb_r (hb_r (hb_r (hb_r (hb_r (hb_r (hb_r (hb_r (hb_r (hb_r (kdX10_span_0))))))))))))))))))))))))))))
theorem dX10_span_50 : decode cX10_span 50 = .ok (.iconst 0, 1) := of_decide_eq_true (hb_l (hb_r (hb_r (hb_r (hb_r (hb_r (hb_r (hb_r (hb_r (hb_r (hb_r (hb_r (hb_r (hb_r (hb_r (hb_r (hb_r (hb_r (hb_r (hb_r (hb_r (hb_r (hb_r (hb_r (hb_r (hb_r (hb_r (hb_r (kdX10_span_0)))))))))))))))))))))))))))))
theorem dX10_span_51 : decode cX10_span 51 = .ok (.istore 5, 2) := of_decide_eq_true (hb_l (hb_r (hb_r (hb_r (hb_r (hb_r (hb_r (hb_r (hb_r (hb_r (hb_r (hb_r (hb_r (hb_r (hb_r (hb_r (hb_r (hb_r (hb_r (hb_r (hb_r (hb_r (hb_r (hb_r (hb_r (hb_r (hb_r (hb_r (hb_r (kdX10_span_0))))))))))))))))))))))))))))))
theorem dX10_span_53 : decode cX10_span 53 = .ok (.iload 5, 2) := of_decide_eq_true (hb_l (hb_r (hb_r (hb_r (hb_r (hb_r (hb_r (hb_r (hb_r (hb_r (hb_r (hb_r (hb_r (hb_r (hb_r (hb_r (hb_r (hb_r (hb_r (hb_r (hb_r (hb_r (hb_r (hb_r (hb_r (hb_r (hb_r (hb_r (hb_r (hb_r (kdX10_span_0)))))))))))))))))))))))))))))))
theorem dX10_span_55 : decode cX10_span 55 = .ok (.bipush 13, 2) := of_decide_eq_true (hb_l (hb_r (hb_r (hb_r (hb_r (hb_r (hb_r (hb_r (hb_r (hb_r (hb_r (hb_r (hb_r (hb_r (hb_r (hb_r (hb_r (hb_r (hb_r (hb_r (hb_r (hb_r (hb_r (hb_r (hb_r (hb_r (hb_r (hb_r (hb_r (hb_r (hb_r (kdX10_span_0))))))))))))))))))))))))))))))))
theorem dX10_span_57 : decode cX10_span 57 = .ok (.if_icmp .ge 103, 3) := of_decide_eq_true (hb_r (hb_r (hb_r (hb_r (hb_r (hb_r (hb_r (hb_r (hb_r (hb_r (hb_r (hb_r (hb_r (hb_r (hb_r (hb_r (hb_r (hb_r (hb_r (hb_r (hb_r (hb_r (hb_r (hb_r (hb_r (hb_r (hb_r (hb_r (hb_r (hb_r (hb_r (kdX10_span_0))))))))))))))))))))))))))))))))
theorem kdX10_span_60 : (decide (decode cX10_span 60 = .ok (.iconst 0, 1)) && (decide (decode cX10_span 61 = .ok (.istore 6, 2)) && (decide (decode cX10_span 63 = .ok (.iload 6, 2)) && (decide (decode cX10_span 65 = .ok (.bipush 13, 2)) && (decide (decode cX10_span 67 = .ok (.if_icmp .ge 87, 3)) && (decide (decode cX10_span 70 = .ok (.aload_n 0, 1)) && (decide (decode cX10_span 71 = .ok (.getfield 100, 3)) && (decide (decode cX10_span 74 = .ok (.bipush 13, 2)) && (decide (decode cX10_span 76 = .ok (.iload 5, 2)) && (decide (decode cX10_span 78 = .ok (.imul, 1)) && (decide (decode cX10_span 79 = .ok (.iload 4, 2)) && (decide (decode cX10_span 81 = .ok (.iadd, 1)) && (decide (decode cX10_span 82 = .ok (.iaload, 1)) && (decide (decode cX10_span 83 = .ok (.istore 7, 2)) && (decide (decode cX10_span 85 = .ok (.aload_n 0, 1)) && (decide (decode cX10_span 86 = .ok (.getfield 100, 3)) && (decide (decode cX10_span 89 = .ok (.bipush 13, 2)) && (decide (decode cX10_span 91 = .ok (.iload 4, 2)) && (decide (decode cX10_span 93 = .ok (.imul, 1)) && (decide (decode cX10_span 94 = .ok (.iload 6, 2)) && (decide (decode cX10_span 96 = .ok (.iadd, 1)) && (decide (decode cX10_span 97 = .ok (.iaload, 1)) && (decide (decode cX10_span 98 = .ok (.istore 8, 2)) && (decide (decode cX10_span 100 = .ok (.iload 7, 2)) && (decide (decode cX10_span 102 = .ok (.ldc 233, 2)) && (decide (decode cX10_span 104 = .ok (.if_icmp .le 44, 3)) && (decide (decode cX10_span 107 = .ok (.iload 8, 2)) && (decide (decode cX10_span 109 = .ok (.ldc 233, 2)) && (decide (decode cX10_span 111 = .ok (.if_icmp .le 37, 3)) && (decide (decode cX10_span 114 = .ok (.aload_n 0, 1)) && (decide (decode cX10_span 115 = .ok (.getfield 100, 3)) && (decide (decode cX10_span 118 = .ok (.bipush 13, 2)))))))))))))))))))))))))))))))))) = true := by decide +kernel
theorem dX10_span_60 : decode cX10_span 60 = .ok (.iconst 0, 1) := of_decide_eq_true (hb_l (kdX10_span_60))
theorem dX10_span_61 : decode cX10_span 61 = .ok (.istore 6, 2) := of_decide_eq_true (hb_l (hb_r (kdX10_span_60)))
theorem dX10_span_63 : decode cX10_span 63 = .ok (.iload 6, 2) := of_decide_eq_true (hb_l (hb_r (hb_r (kdX10_span_60))))
theorem dX10_span_65 : decode cX10_span 65 = .ok (.bipush 13, 2) := of_decide_eq_true (hb_l (hb_r (hb_r (hb_r (kdX10_span_60)))))
theorem dX10_span_67 : decode cX10_span 67 = .ok (.if_icmp .ge 87, 3) := of_decide_eq_true (hb_l (hb_r (hb_r (hb_r (hb_r (kdX10_span_60))))))
theorem dX10_span_70 : decode cX10_span 70 = .ok (.aload_n 0, 1) := of_decide_eq_true (hb_l (hb_r (hb_r (hb_r (hb_r (hb_r (kdX10_span_60)))))))
theorem dX10_span_71 : decode cX10_span 71 = .ok (.getfield 100, 3) := of_decide_eq_true (hb_l (hb_r (hb_r (hb_r (hb_r (hb_r (hb_r (kdX10_span_60))))))))
theorem dX10_span_74 : decode cX10_span 74 = .ok (.bipush 13, 2) := of_decide_eq_true (hb_l (hb_r (hb_r (hb_r (hb_r (hb_r (hb_r (hb_r (kdX10_span_60)))))))))
theorem dX10_span_76 : decode cX10_span 76 = .ok (.iload 5, 2) := of_decide_eq_true (hb_l (hb_r (hb_r (hb_r (hb_r (hb_r (hb_r (hb_r (hb_r (kdX10_span_60))))))))))
theorem dX10_span_78 : decode cX10_span 78 = .ok (.imul, 1) := of_decide_eq_true (hb_l (hb_r (hb_r (hb_r (hb_r (hb_r (hb_r (hb_r (hb_r (hb_r (kdX10_span_60)))))))))))
theorem dX10_span_79 : decode cX10_span 79 = .ok (.iload 4, 2) := of_decide_eq_true (hb_l (hb_r (hb_r (hb_r (hb_r (hb_r (hb_r (hb_r (hb_r (hb_r (hb_r (kdX10_span_60))))))))))))
theorem dX10_span_81 : decode cX10_span 81 = .ok (.iadd, 1) := of_decide_eq_true (hb_l (hb_r (hb_r (hb_r (hb_r (hb_r (hb_r (hb_r (hb_r (hb_r (hb_r (hb_r (kdX10_span_60)))))))))))))
theorem dX10_span_82 : decode cX10_span 82 = .ok (.iaload, 1) := of_decide_eq_true (hb_l (hb_r (hb_r (hb_r (hb_r (hb_r (hb_r (hb_r (hb_r (hb_r (hb_r (hb_r (hb_r (kdX10_span_60))))))))))))))
theorem dX10_span_83 : decode cX10_span 83 = .ok (.istore 7, 2) := of_decide_eq_true (hb_l (hb_r (hb_r (hb_r (hb_r (hb_r (hb_r (hb_r (hb_r (hb_r (hb_r (hb_r (hb_r (hb_r (kdX10_span_60)))))))))))))))
theorem dX10_span_85 : decode cX10_span 85 = .ok (.aload_n 0, 1) := of_decide_eq_true (hb_l (hb_r (hb_r (hb_r (hb_r (hb_r (hb_r (hb_r (hb_r (hb_r (hb_r (hb_r (hb_r (hb_r (hb_r (kdX10_span_60))))))))))))))))
theorem dX10_span_86 : decode cX10_span 86 = .ok (.getfield 100, 3) := of_decide_eq_true (hb_l (hb_r (hb_r (hb_r (hb_r (hb_r (hb_r (hb_r (hb_r (hb_r (hb_r (hb_r (hb_r (hb_r (hb_r (hb_r (kdX10_span_60)))))))))))))))))
theorem dX10_span_89 : decode cX10_span 89 = .ok (.bipush 13, 2) := of_decide_eq_true (hb_l (hb_r (hb_r (hb_r (hb_r (hb_r (hb_r (hb_r (hb_r (hb_r (hb_r (hb_r (hb_r (hb_r (hb_r (hb_r (hb_r (kdX10_span_60))))))))))))))))))
theorem dX10_span_91 : decode cX10_span 91 = .ok (.iload 4, 2) := of_decide_eq_true (hb_l (hb_r (hb_r (hb_r (hb_r (hb_r (hb_r (hb_r (hb_r (hb_r (hb_r (hb_r (hb_r (hb_r (hb_r (hb_r (hb_r (hb_r (kdX10_span_60)))))))))))))))))))
theorem dX10_span_93 : decode cX10_span 93 = .ok (.imul, 1) := of_decide_eq_true (hb_l (hb_r (hb_r (hb_r (hb_r (hb_r (hb_r (hb_r (hb_r (hb_r (hb_r (hb_r (hb_r (hb_r (hb_r (hb_r (hb_r (hb_r (hb_r (kdX10_span_60))))))))))))))))))))
theorem dX10_span_94 : decode cX10_span 94 = .ok (.iload 6, 2) := of_decide_eq_true (hb_l (hb_r (hb_r (hb_r (hb_r (hb_r (hb_r (hb_r (hb_r (hb_r (hb_r (hb_r (hb_r (hb_r (hb_r (hb_r (hb_r (hb_r (hb_r (hb_r (kdX10_span_60)))))))))))))))))))))
theorem dX10_span_96 : decode cX10_span 96 = .ok (.iadd, 1) := of_decide_eq_true (hb_l (hb_r (hb_r (hb_r (hb_r (hb_r (hb_r (hb_r (hb_r (hb_r (hb_r (hb_r (hb_r (hb_r (hb_r (hb_r (hb_r (hb_r (hb_r (hb_r (hb_r (kdX10_span_60))))))))))))))))))))))
theorem dX10_span_97 : decode cX10_span 97 = .ok (.iaload, 1) := of_decide_eq_true (hb_l (hb_r (hb_r (hb_r (hb_r (hb_r (hb_r (hb_r (hb_r (hb_r (hb_r (hb_r (hb_r (hb_r (hb_r (hb_r (hb_r (hb_r (hb_r (hb_r (hb_r (hb_r (kdX10_span_60)))))))))))))))))))))))
theorem dX10_span_98 : decode cX10_span 98 = .ok (.istore 8, 2) := of_decide_eq_true (hb_l (hb_r (hb_r (hb_r (hb_r (hb_r (hb_r (hb_r (hb_r (hb_r (hb_r (hb_r (hb_r (hb_r (hb_r (hb_r (hb_r (hb_r (hb_r (hb_r (hb_r (hb_r (hb_r (kdX10_span_60))))))))))))))))))))))))
theorem dX10_span_100 : decode cX10_span 100 = .ok (.iload 7, 2) := of_decide_eq_true (hb_l (hb_r (hb_r (hb_r (hb_r (hb_r (hb_r (hb_r (hb_r (hb_r (hb_r (hb_r (hb_r (hb_r (hb_r (hb_r (hb_r (hb_r (hb_r (hb_r (hb_r (hb_r (hb_r (hb_r (kdX10_span_60)))))))))))))))))))))))))
theorem dX10_span_102 : decode cX10_span 102 = .ok (.ldc 233, 2) := of_decide_eq_true (hb_l (hb_r (hb_r (hb_r (hb_r (hb_r (hb_r (hb_r (hb_r (hb_r (hb_r (hb_r (hb_r (hb_r (hb_r (hb_r (hb_r (hb_r (hb_r (hb_r (hb_r (hb_r (hb_r (hb_r (hb_r (kdX10_span_60))))))))))))))))))))))))))
theorem dX10_span_104 : decode cX10_span 104 = .ok (.if_icmp .le 44, 3) := of_decide_eq_true (hb_l (hb_r (hb_r (hb_r (hb_r (hb_r (hb_r (hb_r (hb_r (hb_r (hb_r (hb_r (hb_r (hb_r (hb_r (hb_r (hb_r (hb_r (hb_r (hb_r (hb_r (hb_r (hb_r (hb_r (hb_r (hb_r (kdX10_span_60)))))))))))))))))))))))))))
theorem dX10_span_107 : decode cX10_span 107 = .ok (.iload 8, 2) := of_decide_eq_true (hb_l (hb_r (hb_r (hb_r (hb_r (hb_r (hb_r (hb_r (hb_r (hb_r (hb_r (hb_r (hb_r (hb_r (hb_r (hb_r (hb_r (hb_r (hb_r (hb_r (hb_r (hb_r (hb_r (hb_r (hb_r (hb_r (hb_r (kdX10_span_60))))))))))))))))))))))))))))
theorem dX10_span_109 : decode cX10_span 109 = .ok (.ldc 233, 2) := of_decide_eq_true (hb_l (hb_r (hb_r (hb_r (hb_r (hb_r (hb_r (hb_r (hb_r (hb_r (hb_r (hb_r (hb_r (hb_r (hb_r (hb_r (hb_r (hb_r (hb_r (hb_r (hb_r (hb_r (hb_r (hb_r (hb_r (hb_r (hb_r (hb_r (kdX10_span_60)))))))))))))))))))))))))))))
theorem dX10_span_111 : decode cX10_span 111 = .ok (.if_icmp .le 37, 3) := of_decide_eq_true (hb_l (hb_r (hb_r (hb_r (hb_r (hb_r (hb_r (hb_r (hb_r (hb_r (hb_r (hb_r (hb_r (hb_r (hb_r (hb_r (hb_r (hb_r (hb_r (hb_r (hb_r (hb_r (hb_r (hb_r (hb_r (hb_r (hb_r (hb_r (hb_r (kdX10_span_60))))))))))))))))))))))))))))))
theorem dX10_span_114 : decode cX10_span 114 = .ok (.aload_n 0, 1) := of_decide_eq_true (hb_l (hb_r (hb_r (hb_r (hb_r (hb_r (hb_r (hb_r (hb_r (hb_r (hb_r (hb_r (hb_r (hb_r (hb_r (hb_r (hb_r (hb_r (hb_r (hb_r (hb_r (hb_r (hb_r (hb_r (hb_r (hb_r (hb_r (hb_r (hb_r (hb_r (kdX10_span_60)))))))))))))))))))))))))))))))
theorem dX10_span_115 : decode cX10_span 115 = .ok (.getfield 100, 3) := of_decide_eq_true (hb_l (hb_r (hb_r (hb_r (hb_r (hb_r (hb_r (hb_r (hb_r (hb_r (hb_r (hb_r (hb_r (hb_r (hb_r (hb_r (hb_r (hb_r (hb_r (hb_r (hb_r (hb_r (hb_r (hb_r (hb_r (hb_r (hb_r (hb_r (hb_r (hb_r (hb_r (kdX10_span_60))))))))))))))))))))))))))))))))
theorem dX10_span_118 : decode cX10_span 118 = .ok (.bipush 13, 2) := of_decide_eq_true (hb_r (hb_r (hb_r (hb_r (hb_r (hb_r (hb_r (hb_r (hb_r (hb_r (hb_r (hb_r (hb_r (hb_r (hb_r (hb_r (hb_r (hb_r (hb_r (hb_r (hb_r (hb_r (hb_r (hb_r (hb_r (hb_r (hb_r (hb_r (hb_r (hb_r (hb_r (kdX10_span_60))))))))))))))))))))))))))))))))
theorem kdX10_span_120 : (decide (decode cX10_span 120 = .ok (.iload 5, 2)) && (decide (decode cX10_span 122 = .ok (.imul, 1)) && (decide (decode cX10_span 123 = .ok (.iload 6, 2)) && (decide (decode cX10_span 125 = .ok (.iadd, 1)) && (decide (decode cX10_span 126 = .ok (.aload_n 0, 1)) && (decide (decode cX10_span 127 = .ok (.getfield 100, 3)) && (decide (decode cX10_span 130 = .ok (.bipush 13, 2)) && (decide (decode cX10_span 132 = .ok (.iload 5, 2)) && (decide (decode cX10_span 134 = .ok (.imul, 1)) && (decide (decode cX10_span 135 = .ok (.iload 6, 2)) && (decide (decode cX10_span 137 = .ok (.iadd, 1)) && (decide (decode cX10_span 138 = .ok (.iaload, 1)) && (decide (decode cX10_span 139 = .ok (.iload 7, 2)) && (decide (decode cX10_span 141 = .ok (.iload 8, 2)) && (decide (decode cX10_span 143 = .ok (.iadd, 1)) && (decide (decode cX10_span 144 = .ok (.invokestatic 153, 3)) && (decide (decode cX10_span 147 = .ok (.iastore, 1)) && (decide (decode cX10_span 148 = .ok (.iinc 6 1, 3)) && (decide (decode cX10_span 151 = .ok (.goto (-88), 3)) && (decide (decode cX10_span 154 = .ok (.iinc 5 1, 3)) && (decide (decode cX10_span 157 = .ok (.goto (-104), 3)) && (decide (decode cX10_span 160 = .ok (.iinc 4 1, 3)) && (decide (decode cX10_span 163 = .ok (.goto (-120), 3)) && (decide (decode cX10_span 166 = .ok (.iload_n 2, 1)) && (decide (decode cX10_span 167 = .ok (.ifCond .eq 18, 3)) && (decide (decode cX10_span 170 = .ok (.aload_n 0, 1)) && (decide (decode cX10_span 171 = .ok (.getfield 100, 3)) && (decide (decode cX10_span 174 = .ok (.bipush 13, 2)) && (decide (decode cX10_span 176 = .ok (.iload_n 1, 1)) && (decide (decode cX10_span 177 = .ok (.imul, 1)) && (decide (decode cX10_span 178 = .ok (.bipush 12, 2)) && (decide (decode cX10_span 180 = .ok (.iadd, 1)))))))))))))))))))))))))))))))))) = true := by decide +kernel
theorem dX10_span_120 : decode cX10_span 120 = .ok (.iload 5, 2) := of_decide_eq_true (hb_l (kdX10_span_120))
theorem dX10_span_122 : decode cX10_span 122 = .ok (.imul, 1) := of_decide_eq_true (hb_l (hb_r (kdX10_span_120)))
theorem dX10_span_123 : decode cX10_span 123 = .ok (.iload 6, 2) := of_decide_eq_true (hb_l (hb_r (hb_r (kdX10_span_120))))
theorem dX10_span_125 : decode cX10_span 125 = .ok (.iadd, 1) := of_decide_eq_true (hb_l (hb_r (hb_r (hb_r (kdX10_span_120)))))
theorem dX10_span_126 : decode cX10_span 126 = .ok (.aload_n 0, 1) := of_decide_eq_true (hb_l (hb_r (hb_r (hb_r (hb_r (kdX10_span_120))))))
theorem dX10_span_127 : decode cX10_span 127 = .ok (.getfield 100, 3) := of_decide_eq_true (hb_l (hb_r (hb_r (hb_r (hb_r (hb_r (kdX10_span_120)))))))
theorem dX10_span_130 : decode cX10_span 130 = .ok (.bipush 13, 2) := of_decide_eq_true (hb_l (hb_r (hb_r (hb_r (hb_r (hb_r (hb_r (kdX10_span_120))))))))
theorem dX10_span_132 : decode cX10_span 132 = .ok (.iload 5, 2) := of_decide_eq_true (hb_l (hb_r (hb_r (hb_r (hb_r (hb_r (hb_r (hb_r (kdX10_span_120)))))))))
theorem dX10_span_134 : decode cX10_span 134 = .ok (.imul, 1) := of_decide_eq_true (hb_l (hb_r (hb_r (hb_r (hb_r (hb_r (hb_r (hb_r (hb_r (kdX10_span_120))))))))))
theorem dX10_span_135 : decode cX10_span 135 = .ok (.iload 6, 2) := of_decide_eq_true (hb_l (hb_r (hb_r (hb_r (hb_r (hb_r (hb_r (hb_r (hb_r (hb_r (kdX10_span_120)))))))))))
theorem dX10_span_137 : decode cX10_span 137 = .ok (.iadd, 1) := of_decide_eq_true (hb_l (hb_r (hb_r (hb_r (hb_r (hb_r (hb_r (hb_r (hb_r (hb_r (hb_r (kdX10_span_120))))))))))))
theorem dX10_span_138 : decode cX10_span 138 = .ok (.iaload, 1) := of_decide_eq_true (hb_l (hb_r (hb_r (hb_r (hb_r (hb_r (hb_r (hb_r (hb_r (hb_r (hb_r (hb_r (kdX10_span_120)))))))))))))
theorem dX10_span_139 : decode cX10_span 139 = .ok (.iload 7, 2) := of_decide_eq_true (hb_l (hb_r (hb_r (hb_r (hb_r (hb_r (hb_r (hb_r (hb_r (hb_r (hb_r (hb_r (hb_r (kdX10_span_120))))))))))))))
theorem dX10_span_141 : decode cX10_span 141 = .ok (.iload 8, 2) := of_decide_eq_true (hb_l (hb_r (hb_r (hb_r (hb_r (hb_r (hb_r (hb_r (hb_r (hb_r (hb_r (hb_r (hb_r (hb_r (kdX10_span_120)))))))))))))))
theorem dX10_span_143 : decode cX10_span 143 = .ok (.iadd, 1) := of_decide_eq_true (hb_l (hb_r (hb_r (hb_r (hb_r (hb_r (hb_r (hb_r (hb_r (hb_r (hb_r (hb_r (hb_r (hb_r (hb_r (kdX10_span_120))))))))))))))))
theorem dX10_span_144 : decode cX10_span 144 = .ok (.invokestatic 153, 3) := of_decide_eq_true (hb_l (hb_r (hb_r (hb_r (hb_r (hb_r (hb_r (hb_r (hb_r (hb_r (hb_r (hb_r (hb_r (hb_r (hb_r (hb_r (kdX10_span_120)))))))))))))))))
theorem dX10_span_147 : decode cX10_span 147 = .ok (.iastore, 1) := of_decide_eq_true (hb_l (hb_r (hb_r (hb_r (hb_r (hb_r (hb_r (hb_r (hb_r (hb_r (hb_r (hb_r (hb_r (hb_r (hb_r (hb_r (hb_r (kdX10_span_120))))))))))))))))))
theorem dX10_span_148 : decode cX10_span 148 = .ok (.iinc 6 1, 3) := of_decide_eq_true (hb_l (hb_r (hb_r (hb_r (hb_r (hb_r (hb_r (hb_r (hb_r (hb_r (hb_r (hb_r (hb_r (hb_r (hb_r (hb_r (hb_r (hb_r (kdX10_span_120)))))))))))))))))))
theorem dX10_span_151 : decode cX10_span 151 = .ok (.goto (-88), 3) := of_decide_eq_true (hb_l (hb_r (hb_r (hb_r (hb_r (hb_r (hb_r (hb_r (hb_r (hb_r (hb_r (hb_r (hb_r (hb_r (hb_r (hb_r (hb_r (hb_r (hb_r (kdX10_span_120))))))))))))))))))))
theorem dX10_span_154 : decode cX10_span 154 = .ok (.iinc 5 1, 3) := of_decide_eq_true (hb_l (hb_r (hb_r (hb_r (hb_r (hb_r (hb_r (hb_r (hb_r (hb_r (hb_r (hb_r (hb_r (hb_r (hb_r (hb_r (hb_r (hb_r (hb_r (hb_r (kdX10_span_120)))))))))))))))))))))
theorem dX10_span_157 : decode cX10_span 157 = .ok (.goto (-104), 3) := of_decide_eq_true (hb_l (hb_r (hb_r (hb_r (hb_r (hb_r (hb_r (hb_r (hb_r (hb_r (hb_r (hb_r (hb_r (hb_r (hb_r (hb_r (hb_r (hb_r (hb_r (hb_r (hb_r (kdX10_span_120))))))))))))))))))))))
theorem dX10_span_160 : decode cX10_span 160 = .ok (.iinc 4 1, 3) := of_decide_eq_true (hb_l (hb_r (hb_r (hb_r (hb_r (hb_r (hb_r (hb_r (hb_r (hb_r (hb_r (hb_r (hb_r (hb_r (hb_r (hb_r (hb_r (hb_r (hb_r (hb_r (hb_r (hb_r (kdX10_span_120)))))))))))))))))))))))
theorem dX10_span_163 : decode cX10_span 163 = .ok (.goto (-120), 3) := of_decide_eq_true (hb_l (hb_r (hb_r (hb_r (hb_r (hb_r (hb_r (hb_r (hb_r (hb_r (hb_r (hb_r (hb_r (hb_r (hb_r (hb_r (hb_r (hb_r (hb_r (hb_r (hb_r (hb_r (hb_r (kdX10_span_120))))))))))))))))))))))))
theorem dX10_span_166 : decode cX10_span 166 = .ok (.iload_n 2, 1) := of_decide_eq_true (hb_l (hb_r (hb_r (hb_r (hb_r (hb_r (hb_r (hb_r (hb_r (hb_r (hb_r (hb_r (hb_r (hb_r (hb_r (hb_r (hb_r (hb_r (hb_r (hb_r (hb_r (hb_r (hb_r (hb_r (kdX10_span_120)))))))))))))))))))))))))
theorem dX10_span_167 : decode cX10_span 167 = .ok (.ifCond .eq 18, 3) := of_decide_eq_true (hb_l (hb_r (hb_r (hb_r (hb_r (hb_r (hb_r (hb_r (hb_r (hb_r (hb_r (hb_r (hb_r (hb_r (hb_r (hb_r (hb_r (hb_r (hb_r (hb_r (hb_r (hb_r (hb_r (hb_r (hb_r (kdX10_span_120))))))))))))))))))))))))))
theorem dX10_span_170 : decode cX10_span 170 = .ok (.aload_n 0, 1) := of_decide_eq_true (hb_l (hb_r (hb_r (hb_r (hb_r (hb_r (hb_r (hb_r (hb_r (hb_r (hb_r (hb_r (hb_r (hb_r (hb_r (hb_r (hb_r (hb_r (hb_r (hb_r (hb_r (hb_r (hb_r (hb_r (hb_r (hb_r (kdX10_span_120)))))))))))))))))))))))))))
theorem dX10_span_171 : decode cX10_span 171 = .ok (.getfield 100, 3) := of_decide_eq_true (hb_l (hb_r (hb_r (hb_r (hb_r (hb_r (hb_r (hb_r (hb_r (hb_r (hb_r (hb_r (hb_r (hb_r (hb_r (hb_r (hb_r (hb_r (hb_r (hb_r (hb_r (hb_r (hb_r (hb_r (hb_r (hb_r (hb_r (kdX10_span_120))))))))))))))))))))))))))))
theorem dX10_span_174 : decode cX10_span 174 = .ok (.bipush 13, 2) := of_decide_eq_true (hb_l (hb_r (hb_r (hb_r (hb_r (hb_r (hb_r (hb_r (hb_r (hb_r (hb_r (hb_r (hb_r (hb_r (hb_r (hb_r (hb_r (hb_r (hb_r (hb_r (hb_r (hb_r (hb_r (hb_r (hb_r (hb_r (hb_r (hb_r (kdX10_span_120)))))))))))))))))))))))))))))
theorem dX10_span_176 : decode cX10_span 176 = .ok (.iload_n 1, 1) := of_decide_eq_true (hb_l (hb_r (hb_r (hb_r (hb_r (hb_r (hb_r (hb_r (hb_r (hb_r (hb_r (hb_r (hb_r (hb_r (hb_r (hb_r (hb_r (hb_r (hb_r (hb_r (hb_r (hb_r (hb_r (hb_r (hb_r (hb_r (hb_r (hb_r (hb_r (kdX10_span_120))))))))))))))))))))))))))))))
theorem dX10_span_177 : decode cX10_span 177 = .ok (.imul, 1) := of_decide_eq_true (hb_l (hb_r (hb_r (hb_r (hb_r (hb_r (hb_r (hb_r (hb_r (hb_r (hb_r (hb_r (hb_r (hb_r (hb_r (hb_r (hb_r (hb_r (hb_r (hb_r (hb_r (hb_r (hb_r (hb_r (hb_r (hb_r (hb_r (hb_r (hb_r (hb_r (kdX10_span_120)))))))))))))))))))))))))))))))
theorem dX10_span_178 : decode cX10_span 178 = .ok (.bipush 12, 2) := of_decide_eq_true (hb_l (hb_r (hb_r (hb_r (hb_r (hb_r (hb_r (hb_r (hb_r (hb_r (hb_r (hb_r (hb_r (hb_r (hb_r (hb_r (hb_r (hb_r (hb_r (hb_r (hb_r (hb_r (hb_r (hb_r (hb_r (hb_r (hb_r (hb_r (hb_r (hb_r (hb_r (kdX10_span_120))))))))))))))))))))))))))))))))
theorem dX10_span_180 : decode cX10_span 180 = .ok (.iadd, 1) := of_decide_eq_true (hb_r (hb_r (hb_r (hb_r (hb_r (hb_r (hb_r (hb_r (hb_r (hb_r (hb_r (hb_r (hb_r (hb_r (hb_r (hb_r (hb_r (hb_r (hb_r (hb_r (hb_r (hb_r (hb_r (hb_r (hb_r (hb_r (hb_r (hb_r (hb_r (hb_r (hb_r (kdX10_span_120))))))))))))))))))))))))))))))))
theorem kdX10_span_181 : (decide (decode cX10_span 181 = .ok (.iaload, 1)) && (decide (decode cX10_span 182 = .ok (.goto 13, 3)) && (decide (decode cX10_span 185 = .ok (.aload_n 0, 1)) && (decide (decode cX10_span 186 = .ok (.getfield 100, 3)) && (decide (decode cX10_span 189 = .ok (.sipush 156, 3)) && (decide (decode cX10_span 192 = .ok (.iload_n 1, 1)) && (decide (decode cX10_span 193 = .ok (.iadd, 1)) && (decide (decode cX10_span 194 = .ok (.iaload, 1)) && (decide (decode cX10_span 195 = .ok (.istore 4, 2)) && (decide (decode cX10_span 197 = .ok (.aload_n 0, 1)) && (decide (decode cX10_span 198 = .ok (.iload 4, 2)) && (decide (decode cX10_span 200 = .ok (.ldc 233, 2)) && (decide (decode cX10_span 202 = .ok (.if_icmp .ne 7, 3)) && (decide (decode cX10_span 205 = .ok (.iconst 1, 1)) && (decide (decode cX10_span 206 = .ok (.goto 4, 3)) && (decide (decode cX10_span 209 = .ok (.iconst 0, 1)) && (decide (decode cX10_span 210 = .ok (.iconst 2, 1)) && (decide (decode cX10_span 211 = .ok (.invokevirtual 122, 3)) && (decide (decode cX10_span 214 = .ok (.ifCond .eq 5, 3)) && (decide (decode cX10_span 217 = .ok (.iconst 0, 1)) && (decide (decode cX10_span 218 = .ok (.ireturn, 1)) && (decide (decode cX10_span 219 = .ok (.iload_n 2, 1)) && (decide (decode cX10_span 220 = .ok (.ifCond .eq 9, 3)) && (decide (decode cX10_span 223 = .ok (.iload 4, 2)) && (decide (decode cX10_span 225 = .ok (.ineg, 1)) && (decide (decode cX10_span 226 = .ok (.goto 5, 3)) && (decide (decode cX10_span 229 = .ok (.iload 4, 2)) && (decide (decode cX10_span 231 = .ok (.ireturn, 1)))))))))))))))))))))))))))))) = true := by decide +kernel
theorem dX10_span_181 : decode cX10_span 181 = .ok (.iaload, 1) := of_decide_eq_true (hb_l (kdX10_span_181))
theorem dX10_span_182 : decode cX10_span 182 = .ok (.goto 13, 3) := of_decide_eq_true (hb_l (hb_r (kdX10_span_181)))
theorem dX10_span_185 : decode cX10_span 185 = .ok (.aload_n 0, 1) := of_decide_eq_true (hb_l (hb_r (hb_r (kdX10_span_181))))
theorem dX10_span_186 : decode cX10_span 186 = .ok (.getfield 100, 3) := of_decide_eq_true (hb_l (hb_r (hb_r (hb_r (kdX10_span_181)))))
theorem dX10_span_189 : decode cX10_span 189 = .ok (.sipush 156, 3) := of_decide_eq_true (hb_l (hb_r (hb_r (hb_r (hb_r (kdX10_span_181))))))
theorem dX10_span_192 : decode cX10_span 192 = .ok (.iload_n 1, 1) := of_decide_eq_true (hb_l (hb_r (hb_r (hb_r (hb_r (hb_r (kdX10_span_181)))))))
theorem dX10_span_193 : decode cX10_span 193 = .ok (.iadd, 1) := of_decide_eq_true (hb_l (hb_r (hb_r (hb_r (hb_r (hb_r (hb_r (kdX10_span_181))))))))
theorem dX10_span_194 : decode cX10_span 194 = .ok (.iaload, 1) := of_decide_eq_true (hb_l (hb_r (hb_r (hb_r (hb_r (hb_r (hb_r (hb_r (kdX10_span_181)))))))))
theorem dX10_span_195 : decode cX10_span 195 = .ok (.istore 4, 2) := of_decide_eq_true (hb_l (hb_r (hb_r (hb_r (hb_r (hb_r (hb_r (hb_r (hb_r (kdX10_span_181))))))))))
theorem dX10_span_197 : decode cX10_span 197 = .ok (.aload_n 0, 1) := of_decide_eq_true (hb_l (hb_r (hb_r (hb_r (hb_r (hb_r (hb_r (hb_r (hb_r (hb_r (kdX10_span_181)))))))))))
theorem dX10_span_198 : decode cX10_span 198 = .ok (.iload 4, 2) := of_decide_eq_true (hb_l (hb_r (hb_r (hb_r (hb_r (hb_r (hb_r (hb_r (hb_r (hb_r (hb_r (kdX10_span_181))))))))))))
theorem dX10_span_200 : decode cX10_span 200 = .ok (.ldc 233, 2) := of_decide_eq_true (hb_l (hb_r (hb_r (hb_r (hb_r (hb_r (hb_r (hb_r (hb_r (hb_r (hb_r (hb_r (kdX10_span_181)))))))))))))
theorem dX10_span_202 : decode cX10_span 202 = .ok (.if_icmp .ne 7, 3) := of_decide_eq_true (hb_l (hb_r (hb_r (hb_r (hb_r (hb_r (hb_r (hb_r (hb_r (hb_r (hb_r (hb_r (hb_r (kdX10_span_181))))))))))))))
theorem dX10_span_205 : decode cX10_span 205 = .ok (.iconst 1, 1) := of_decide_eq_true (hb_l (hb_r (hb_r (hb_r (hb_r (hb_r (hb_r (hb_r (hb_r (hb_r (hb_r (hb_r (hb_r (hb_r (kdX10_span_181)))))))))))))))
theorem dX10_span_206 : decode cX10_span 206 = .ok (.goto 4, 3) := of_decide_eq_true (hb_l (hb_r (hb_r (hb_r (hb_r (hb_r (hb_r (hb_r (hb_r (hb_r (hb_r (hb_r (hb_r (hb_r (hb_r (kdX10_span_181))))))))))))))))
theorem dX10_span_209 : decode cX10_span 209 = .ok (.iconst 0, 1) := of_decide_eq_true (hb_l (hb_r (hb_r (hb_r (hb_r (hb_r (hb_r (hb_r (hb_r (hb_r (hb_r (hb_r (hb_r (hb_r (hb_r (hb_r (kdX10_span_181)))))))))))))))))
theorem dX10_span_210 : decode cX10_span 210 = .ok (.iconst 2, 1) := of_decide_eq_true (hb_l (hb_r (hb_r (hb_r (hb_r (hb_r (hb_r (hb_r (hb_r (hb_r (hb_r (hb_r (hb_r (hb_r (hb_r (hb_r (hb_r (kdX10_span_181))))))))))))))))))
theorem dX10_span_211 : decode cX10_span 211 = .ok (.invokevirtual 122, 3) := of_decide_eq_true (hb_l (hb_r (hb_r (hb_r (hb_r (hb_r (hb_r (hb_r (hb_r (hb_r (hb_r (hb_r (hb_r (hb_r (hb_r (hb_r (hb_r (hb_r (kdX10_span_181)))))))))))))))))))
theorem dX10_span_214 : decode cX10_span 214 = .ok (.ifCond .eq 5, 3) := of_decide_eq_true (hb_l (hb_r (hb_r (hb_r (hb_r (hb_r (hb_r (hb_r (hb_r (hb_r (hb_r (hb_r (hb_r (hb_r (hb_r (hb_r (hb_r (hb_r (hb_r (kdX10_span_181))))))))))))))))))))
theorem dX10_span_217 : decode cX10_span 217 = .ok (.iconst 0, 1) := of_decide_eq_true (hb_l (hb_r (hb_r (hb_r (hb_r (hb_r (hb_r (hb_r (hb_r (hb_r (hb_r (hb_r (hb_r (hb_r (hb_r (hb_r (hb_r (hb_r (hb_r (hb_r (kdX10_span_181)))))))))))))))))))))
theorem dX10_span_218 : decode cX10_span 218 = .ok (.ireturn, 1) := of_decide_eq_true (hb_l (hb_r (hb_r (hb_r (hb_r (hb_r (hb_r (hb_r (hb_r (hb_r (hb_r (hb_r (hb_r (hb_r (hb_r (hb_r (hb_r (hb_r (hb_r (hb_r (hb_r (kdX10_span_181))))))))))))))))))))))
theorem dX10_span_219 : decode cX10_span 219 = .ok (.iload_n 2, 1) := of_decide_eq_true (hb_l (hb_r (hb_r (hb_r (hb_r (hb_r (hb_r (hb_r (hb_r (hb_r (hb_r (hb_r (hb_r (hb_r (hb_r (hb_r (hb_r (hb_r (hb_r (hb_r (hb_r (hb_r (kdX10_span_181)))))))))))))))))))))))
theorem dX10_span_220 : decode cX10_span 220 = .ok (.ifCond .eq 9, 3) := of_decide_eq_true (hb_l (hb_r (hb_r (hb_r (hb_r (hb_r (hb_r (hb_r (hb_r (hb_r (hb_r (hb_r (hb_r (hb_r (hb_r (hb_r (hb_r (hb_r (hb_r (hb_r (hb_r (hb_r (hb_r (kdX10_span_181))))))))))))))))))))))))
theorem dX10_span_223 : decode cX10_span 223 = .ok (.iload 4, 2) := of_decide_eq_true (hb_l (hb_r (hb_r (hb_r (hb_r (hb_r (hb_r (hb_r (hb_r (hb_r (hb_r (hb_r (hb_r (hb_r (hb_r (hb_r (hb_r (hb_r (hb_r (hb_r (hb_r (hb_r (hb_r (hb_r (kdX10_span_181)))))))))))))))))))))))))
theorem dX10_span_225 : decode cX10_span 225 = .ok (.ineg, 1) := of_decide_eq_true (hb_l (hb_r (hb_r (hb_r (hb_r (hb_r (hb_r (hb_r (hb_r (hb_r (hb_r (hb_r (hb_r (hb_r (hb_r (hb_r (hb_r (hb_r (hb_r (hb_r (hb_r (hb_r (hb_r (hb_r (hb_r (kdX10_span_181))))))))))))))))))))))))))
theorem dX10_span_226 : decode cX10_span 226 = .ok (.goto 5, 3) := of_decide_eq_true (hb_l (hb_r (hb_r (hb_r (hb_r (hb_r (hb_r (hb_r (hb_r (hb_r (hb_r (hb_r (hb_r (hb_r (hb_r (hb_r (hb_r (hb_r (hb_r (hb_r (hb_r (hb_r (hb_r (hb_r (hb_r (hb_r (kdX10_span_181)))))))))))))))))))))))))))
theorem dX10_span_229 : decode cX10_span 229 = .ok (.iload 4, 2) := of_decide_eq_true (hb_l (hb_r (hb_r (hb_r (hb_r (hb_r (hb_r (hb_r (hb_r (hb_r (hb_r (hb_r (hb_r (hb_r (hb_r (hb_r (hb_r (hb_r (hb_r (hb_r (hb_r (hb_r (hb_r (hb_r (hb_r (hb_r (hb_r (kdX10_span_181))))))))))))))))))))))))))))
theorem dX10_span_231 : decode cX10_span 231 = .ok (.ireturn, 1) := of_decide_eq_true (hb_r (hb_r (hb_r (hb_r (hb_r (hb_r (hb_r (hb_r (hb_r (hb_r (hb_r (hb_r (hb_r (hb_r (hb_r (hb_r (hb_r (hb_r (hb_r (hb_r (hb_r (hb_r (hb_r (hb_r (hb_r (hb_r (hb_r (kdX10_span_181))))))))))))))))))))))))))))
theorem dX10_count_0 : decode cX10_count 0 = .ok (.aload_n 0, 1) := by decide +kernel
theorem dX10_count_1 : decode cX10_count 1 = .ok (.iconst 0, 1) := by decide +kernel
theorem dX10_count_2 : decode cX10_count 2 = .ok (.putfield 109, 3) := by decide +kernel
theorem dX10_count_5 : decode cX10_count 5 = .ok (.iconst 0, 1) := by decide +kernel
theorem dX10_count_6 : decode cX10_count 6 = .ok (.istore_n 2, 1) := by decide +kernel
theorem dX10_count_7 : decode cX10_count 7 = .ok (.iload_n 1, 1) := by decide +kernel
theorem dX10_count_8 : decode cX10_count 8 = .ok (.tableswitch 160 0 9 #[56, 61, 66, 66, 66, 66, 104, 145, 150, 155], 56) := by decide +kernel
theorem dX10_count_64 : decode cX10_count 64 = .ok (.aload_n 0, 1) := by decide +kernel
theorem dX10_count_65 : decode cX10_count 65 = .ok (.getfield 126, 3) := by decide +kernel
theorem dX10_count_68 : decode cX10_count 68 = .ok (.ireturn, 1) := by decide +kernel
theorem dX10_count_69 : decode cX10_count 69 = .ok (.aload_n 0, 1) := by decide +kernel
theorem dX10_count_70 : decode cX10_count 70 = .ok (.getfield 112, 3) := by decide +kernel
theorem dX10_count_73 : decode cX10_count 73 = .ok (.ireturn, 1) := by decide +kernel
theorem dX10_count_74 : decode cX10_count 74 = .ok (.iconst 0, 1) := by decide +kernel
theorem dX10_count_75 : decode cX10_count 75 = .ok (.istore_n 3, 1) := by decide +kernel
theorem dX10_count_76 : decode cX10_count 76 = .ok (.iload_n 3, 1) := by decide +kernel
theorem dX10_count_77 : decode cX10_count 77 = .ok (.aload_n 0, 1) := by decide +kernel
theorem dX10_count_78 : decode cX10_count 78 = .ok (.getfield 112, 3) := by decide +kernel
theorem dX10_count_81 : decode cX10_count 81 = .ok (.if_icmp .ge 29, 3) := by decide +kernel
theorem dX10_count_84 : decode cX10_count 84 = .ok (.iload_n 2, 1) := by decide +kernel
theorem dX10_count_85 : decode cX10_count 85 = .ok (.aload_n 0, 1) := by decide +kernel
theorem dX10_count_86 : decode cX10_count 86 = .ok (.getfield 31, 3) := by decide +kernel
theorem dX10_count_89 : decode cX10_count 89 = .ok (.iload_n 3, 1) := by decide +kernel
theorem dX10_count_90 : decode cX10_count 90 = .ok (.iaload, 1) := by decide +kernel
theorem dX10_count_91 : decode cX10_count 91 = .ok (.iload_n 1, 1) := by decide +kernel
theorem dX10_count_92 : decode cX10_count 92 = .ok (.iconst 2, 1) := by decide +kernel
theorem dX10_count_93 : decode cX10_count 93 = .ok (.isub, 1) := by decide +kernel
theorem dX10_count_94 : decode cX10_count 94 = .ok (.if_icmp .ne 7, 3) := by decide +kernel
theorem dX10_count_97 : decode cX10_count 97 = .ok (.iconst 1, 1) := by decide +kernel
theorem dX10_count_98 : decode cX10_count 98 = .ok (.goto 4, 3) := by decide +kernel
theorem dX10_count_101 : decode cX10_count 101 = .ok (.iconst 0, 1) := by decide +kernel
theorem dX10_count_102 : decode cX10_count 102 = .ok (.iadd, 1) := by decide +kernel
theorem dX10_count_103 : decode cX10_count 103 = .ok (.istore_n 2, 1) := by decide +kernel
theorem dX10_count_104 : decode cX10_count 104 = .ok (.iinc 3 1, 3) := by decide +kernel
theorem dX10_count_107 : decode cX10_count 107 = .ok (.goto (-31), 3) := by decide +kernel
theorem dX10_count_110 : decode cX10_count 110 = .ok (.iload_n 2, 1) := by decide +kernel
theorem dX10_count_111 : decode cX10_count 111 = .ok (.ireturn, 1) := by decide +kernel
theorem dX10_count_112 : decode cX10_count 112 = .ok (.iconst 0, 1) := by decide +kernel
theorem dX10_count_113 : decode cX10_count 113 = .ok (.istore_n 3, 1) := by decide +kernel
theorem dX10_count_114 : decode cX10_count 114 = .ok (.iload_n 3, 1) := by decide +kernel
theorem dX10_count_115 : decode cX10_count 115 = .ok (.aload_n 0, 1) := by decide +kernel
theorem dX10_count_116 : decode cX10_count 116 = .ok (.getfield 112, 3) := by decide +kernel
theorem dX10_count_119 : decode cX10_count 119 = .ok (.if_icmp .ge 32, 3) := by decide +kernel
theorem dX10_count_122 : decode cX10_count 122 = .ok (.iload_n 2, 1) := by decide +kernel
theorem dX10_count_123 : decode cX10_count 123 = .ok (.aload_n 0, 1) := by decide +kernel
theorem dX10_count_124 : decode cX10_count 124 = .ok (.getfield 31, 3) := by decide +kernel
theorem dX10_count_127 : decode cX10_count 127 = .ok (.iload_n 3, 1) := by decide +kernel
theorem dX10_count_128 : decode cX10_count 128 = .ok (.iaload, 1) := by decide +kernel
theorem dX10_count_129 : decode cX10_count 129 = .ok (.iconst 3, 1) := by decide +kernel
theorem dX10_count_130 : decode cX10_count 130 = .ok (.if_icmp .ne 7, 3) := by decide +kernel
theorem dX10_count_133 : decode cX10_count 133 = .ok (.iconst 0, 1) := by decide +kernel
theorem dX10_count_134 : decode cX10_count 134 = .ok (.goto 9, 3) := by decide +kernel
theorem dX10_count_137 : decode cX10_count 137 = .ok (.aload_n 0, 1) := by decide +kernel
theorem dX10_count_138 : decode cX10_count 138 = .ok (.getfield 28, 3) := by decide +kernel
theorem dX10_count_141 : decode cX10_count 141 = .ok (.iload_n 3, 1) := by decide +kernel
theorem dX10_count_142 : decode cX10_count 142 = .ok (.iaload, 1) := by decide +kernel
theorem dX10_count_143 : decode cX10_count 143 = .ok (.iadd, 1) := by decide +kernel
theorem dX10_count_144 : decode cX10_count 144 = .ok (.istore_n 2, 1) := by decide +kernel
theorem dX10_count_145 : decode cX10_count 145 = .ok (.iinc 3 1, 3) := by decide +kernel
theorem dX10_count_148 : decode cX10_count 148 = .ok (.goto (-34), 3) := by decide +kernel
theorem dX10_count_151 : decode cX10_count 151 = .ok (.iload_n 2, 1) := by decide +kernel
theorem dX10_count_152 : decode cX10_count 152 = .ok (.ireturn, 1) := by decide +kernel
theorem dX10_count_153 : decode cX10_count 153 = .ok (.aload_n 0, 1) := by decide +kernel
theorem dX10_count_154 : decode cX10_count 154 = .ok (.getfield 208, 3) := by decide +kernel
theorem dX10_count_157 : decode cX10_count 157 = .ok (.ireturn, 1) := by decide +kernel
theorem dX10_count_158 : decode cX10_count 158 = .ok (.aload_n 0, 1) := by decide +kernel
theorem dX10_count_159 : decode cX10_count 159 = .ok (.getfield 223, 3) := by decide +kernel
theorem dX10_count_162 : decode cX10_count 162 = .ok (.ireturn, 1) := by decide +kernel
theorem dX10_count_163 : decode cX10_count 163 = .ok (.aload_n 0, 1) := by decide +kernel
theorem dX10_count_164 : decode cX10_count 164 = .ok (.getfield 226, 3) := by decide +kernel
theorem dX10_count_167 : decode cX10_count 167 = .ok (.ireturn, 1) := by decide +kernel
theorem dX10_count_168 : decode cX10_count 168 = .ok (.iconst (-1), 1) := by decide +kernel
theorem dX10_count_169 : decode cX10_count 169 = .ok (.ireturn, 1) := by decide +kernel
