theorem dX10_look_105 : decode cX10_look 105 = .ok (.iaload, 1) := by decide +kernel
theorem dX10_look_106 : decode cX10_look 106 = .ok (.ireturn, 1) := by decide +kernel
theorem dX10_look_107 : decode cX10_look 107 = .ok (.aload_n 0, 1) := by decide +kernel
theorem dX10_look_108 : decode cX10_look 108 = .ok (.iload_n 1, 1) := by decide +kernel
theorem dX10_look_109 : decode cX10_look 109 = .ok (.invokevirtual 133, 3) := by decide +kernel
theorem dX10_look_112 : decode cX10_look 112 = .ok (.ireturn, 1) := by decide +kernel
theorem dX10_look_113 : decode cX10_look 113 = .ok (.aload_n 0, 1) := by decide +kernel
theorem dX10_look_114 : decode cX10_look 114 = .ok (.getfield 34, 3) := by decide +kernel
theorem dX10_look_117 : decode cX10_look 117 = .ok (.iload_n 1, 1) := by decide +kernel
theorem dX10_look_118 : decode cX10_look 118 = .ok (.iaload, 1) := by decide +kernel
theorem dX10_look_119 : decode cX10_look 119 = .ok (.ifCond .ge 7, 3) := by decide +kernel
theorem dX10_look_122 : decode cX10_look 122 = .ok (.iconst (-1), 1) := by decide +kernel
theorem dX10_look_123 : decode cX10_look 123 = .ok (.goto 12, 3) := by decide +kernel
theorem dX10_look_126 : decode cX10_look 126 = .ok (.aload_n 0, 1) := by decide +kernel
theorem dX10_look_127 : decode cX10_look 127 = .ok (.getfield 34, 3) := by decide +kernel
theorem dX10_look_130 : decode cX10_look 130 = .ok (.iload_n 1, 1) := by decide +kernel
theorem dX10_look_131 : decode cX10_look 131 = .ok (.iaload, 1) := by decide +kernel
theorem dX10_look_132 : decode cX10_look 132 = .ok (.bipush 6, 2) := by decide +kernel
theorem dX10_look_134 : decode cX10_look 134 = .ok (.idiv, 1) := by decide +kernel
theorem dX10_look_135 : decode cX10_look 135 = .ok (.ireturn, 1) := by decide +kernel
theorem dX10_look_136 : decode cX10_look 136 = .ok (.aload_n 0, 1) := by decide +kernel
theorem dX10_look_137 : decode cX10_look 137 = .ok (.getfield 34, 3) := by decide +kernel
theorem dX10_look_140 : decode cX10_look 140 = .ok (.iload_n 1, 1) := by decide +kernel
theorem dX10_look_141 : decode cX10_look 141 = .ok (.iaload, 1) := by decide +kernel
theorem dX10_look_142 : decode cX10_look 142 = .ok (.ifCond .ge 7, 3) := by decide +kernel
theorem dX10_look_145 : decode cX10_look 145 = .ok (.iconst (-1), 1) := by decide +kernel
theorem dX10_look_146 : decode cX10_look 146 = .ok (.goto 12, 3) := by decide +kernel
theorem dX10_look_149 : decode cX10_look 149 = .ok (.aload_n 0, 1) := by decide +kernel
theorem dX10_look_150 : decode cX10_look 150 = .ok (.getfield 34, 3) := by decide +kernel
theorem dX10_look_153 : decode cX10_look 153 = .ok (.iload_n 1, 1) := by decide +kernel
theorem dX10_look_154 : decode cX10_look 154 = .ok (.iaload, 1) := by decide +kernel
theorem dX10_look_155 : decode cX10_look 155 = .ok (.bipush 6, 2) := by decide +kernel
theorem dX10_look_157 : decode cX10_look 157 = .ok (.irem, 1) := by decide +kernel
theorem dX10_look_158 : decode cX10_look 158 = .ok (.ireturn, 1) := by decide +kernel
theorem dX10_look_159 : decode cX10_look 159 = .ok (.aload_n 0, 1) := by decide +kernel
theorem dX10_look_160 : decode cX10_look 160 = .ok (.getfield 34, 3) := by decide +kernel
theorem dX10_look_163 : decode cX10_look 163 = .ok (.iload_n 1, 1) := by decide +kernel
theorem dX10_look_164 : decode cX10_look 164 = .ok (.iaload, 1) := by decide +kernel
theorem dX10_look_165 : decode cX10_look 165 = .ok (.ifCond .ge 5, 3) := by decide +kernel
theorem dX10_look_168 : decode cX10_look 168 = .ok (.iconst 0, 1) := by decide +kernel
theorem dX10_look_169 : decode cX10_look 169 = .ok (.ireturn, 1) := by decide +kernel
theorem dX10_look_170 : decode cX10_look 170 = .ok (.iconst 0, 1) := by decide +kernel
theorem dX10_look_171 : decode cX10_look 171 = .ok (.istore_n 3, 1) := by decide +kernel
theorem dX10_look_172 : decode cX10_look 172 = .ok (.aload_n 0, 1) := by decide +kernel
theorem dX10_look_173 : decode cX10_look 173 = .ok (.getfield 37, 3) := by decide +kernel
theorem dX10_look_176 : decode cX10_look 176 = .ok (.bipush 10, 2) := by decide +kernel
theorem dX10_look_178 : decode cX10_look 178 = .ok (.aload_n 0, 1) := by decide +kernel
theorem dX10_look_179 : decode cX10_look 179 = .ok (.getfield 34, 3) := by decide +kernel
theorem dX10_look_182 : decode cX10_look 182 = .ok (.iload_n 1, 1) := by decide +kernel
theorem dX10_look_183 : decode cX10_look 183 = .ok (.iaload, 1) := by decide +kernel
theorem dX10_look_184 : decode cX10_look 184 = .ok (.imul, 1) := by decide +kernel
theorem dX10_look_185 : decode cX10_look 185 = .ok (.iload_n 3, 1) := by decide +kernel
theorem dX10_look_186 : decode cX10_look 186 = .ok (.iadd, 1) := by decide +kernel
theorem dX10_look_187 : decode cX10_look 187 = .ok (.iaload, 1) := by decide +kernel
theorem dX10_look_188 : decode cX10_look 188 = .ok (.iload_n 1, 1) := by decide +kernel
theorem dX10_look_189 : decode cX10_look 189 = .ok (.if_icmp .eq 9, 3) := by decide +kernel
theorem dX10_look_192 : decode cX10_look 192 = .ok (.iinc 3 1, 3) := by decide +kernel
theorem dX10_look_195 : decode cX10_look 195 = .ok (.goto (-23), 3) := by decide +kernel
theorem dX10_look_198 : decode cX10_look 198 = .ok (.aload_n 0, 1) := by decide +kernel
theorem dX10_look_199 : decode cX10_look 199 = .ok (.aload_n 0, 1) := by decide +kernel
theorem dX10_look_200 : decode cX10_look 200 = .ok (.getfield 34, 3) := by decide +kernel
theorem dX10_look_203 : decode cX10_look 203 = .ok (.iload_n 1, 1) := by decide +kernel
theorem dX10_look_204 : decode cX10_look 204 = .ok (.iaload, 1) := by decide +kernel
theorem dX10_look_205 : decode cX10_look 205 = .ok (.iload_n 3, 1) := by decide +kernel
theorem dX10_look_206 : decode cX10_look 206 = .ok (.invokevirtual 141, 3) := by decide +kernel
theorem dX10_look_209 : decode cX10_look 209 = .ok (.ireturn, 1) := by decide +kernel
theorem dX10_look_210 : decode cX10_look 210 = .ok (.aload_n 0, 1) := by decide +kernel
theorem dX10_look_211 : decode cX10_look 211 = .ok (.iconst 2, 1) := by decide +kernel
theorem dX10_look_212 : decode cX10_look 212 = .ok (.putfield 109, 3) := by decide +kernel
theorem dX10_look_215 : decode cX10_look 215 = .ok (.iconst 0, 1) := by decide +kernel
theorem dX10_look_216 : decode cX10_look 216 = .ok (.ireturn, 1) := by decide +kernel
set_option maxRecDepth 20000 in
theorem ggX10_stack_X10_noHold : GoodIn wsX10_stack wsX10_noHold := goodIn_sub (xc (xt1 (xl (xt4 (xt1 (xt1 (xt1 (xh))))))) (xa (xc (xt1 (xl (xt4 (xt4 (xh))))) (xc (xt1 (xl (xt4 (xt4 (xt1 (xh)))))) (xc (xt1 (xl (xt4 (xt4 (xt1 (xt1 (xh))))))) (xc (xt1 (xl (xt4 (xt1 (xt1 (xh)))))) (xc (xt1 (xl (xt4 (xt4 (xt1 (xt1 (xt1 (xh)))))))) (xn)))))) (fun _ h => xt1 (xr (h))))) (by decide +kernel)
set_option maxRecDepth 20000 in
theorem gX10_stack_X10_noHold : GoodIn wsX10_stack (wsV RX10 137 RX10 yX10_noHold wsX10_noHold) := goodIn_app (goodIn_sub (xc (xt1 (xl (xt1 (xt1 (xt1 (xh)))))) (xc (xt1 (xl (xt4 (xh)))) (xc (xt1 (xl (xt4 (xt1 (xh))))) (xc (xt1 (xl (xt4 (xt1 (xt1 (xh)))))) (xn))))) (by decide +kernel)) ggX10_stack_X10_noHold
set_option maxRecDepth 20000 in
theorem ggX10_stack_X10_throwsIf : GoodIn wsX10_stack wsX10_throwsIf := goodIn_sub (xc (xt1 (xl (xt4 (xt4 (xt4 (xt1 (xt1 (xt1 (xh))))))))) (xa (xc (xt1 (xl (xh))) (xn)) (fun _ h => xt1 (xr (h))))) (by decide +kernel)
set_option maxRecDepth 20000 in
theorem gX10_stack_X10_throwsIf : GoodIn wsX10_stack (wsV RX10 122 RX10 yX10_throwsIf wsX10_throwsIf) := goodIn_app (goodIn_sub (xc (xt1 (xl (xt4 (xt4 (xt4 (xh)))))) (xc (xt1 (xl (xt4 (xt4 (xt4 (xt1 (xh))))))) (xc (xt1 (xl (xt4 (xt4 (xt4 (xt1 (xt1 (xh)))))))) (xc (xt1 (xl (xt4 (xt1 (xt1 (xh)))))) (xn))))) (by decide +kernel)) ggX10_stack_X10_throwsIf
set_option maxRecDepth 20000 in
theorem ggX10_stack_X10_in : GoodIn wsX10_stack wsX10_in := goodIn_sub (xc (xt1 (xl (xt4 (xt4 (xt1 (xt1 (xt1 (xh)))))))) (xn)) (by decide +kernel)
set_option maxRecDepth 20000 in
theorem gX10_stack_X10_in : GoodIn wsX10_stack (va_wsS RX10 115 yX10_in wsX10_in) := goodIn_app (goodIn_sub (xc (xt1 (xl (xt4 (xt4 (xt1 (xh)))))) (xc (xt1 (xl (xt4 (xt4 (xt1 (xt1 (xh))))))) (xc (xt1 (xl (xt4 (xt1 (xt1 (xh)))))) (xn)))) (by decide +kernel)) ggX10_stack_X10_in
theorem dX10_stack_0 : decode cX10_stack 0 = .ok (.aload_n 0, 1) := by decide +kernel
theorem dX10_stack_1 : decode cX10_stack 1 = .ok (.iconst 0, 1) := by decide +kernel
theorem dX10_stack_2 : decode cX10_stack 2 = .ok (.putfield 109, 3) := by decide +kernel
theorem dX10_stack_5 : decode cX10_stack 5 = .ok (.aload_n 0, 1) := by decide +kernel
theorem dX10_stack_6 : decode cX10_stack 6 = .ok (.aload_n 0, 1) := by decide +kernel
theorem dX10_stack_7 : decode cX10_stack 7 = .ok (.iload_n 1, 1) := by decide +kernel
theorem dX10_stack_8 : decode cX10_stack 8 = .ok (.iload_n 2, 1) := by decide +kernel
theorem dX10_stack_9 : decode cX10_stack 9 = .ok (.invokevirtual 137, 3) := by decide +kernel
theorem dX10_stack_12 : decode cX10_stack 12 = .ok (.iconst 1, 1) := by decide +kernel
theorem dX10_stack_13 : decode cX10_stack 13 = .ok (.invokevirtual 122, 3) := by decide +kernel
theorem dX10_stack_16 : decode cX10_stack 16 = .ok (.ifCond .eq 5, 3) := by decide +kernel
theorem dX10_stack_19 : decode cX10_stack 19 = .ok (.iconst 0, 1) := by decide +kernel
theorem dX10_stack_20 : decode cX10_stack 20 = .ok (.ireturn, 1) := by decide +kernel
theorem dX10_stack_21 : decode cX10_stack 21 = .ok (.bipush 6, 2) := by decide +kernel
theorem dX10_stack_23 : decode cX10_stack 23 = .ok (.iload_n 1, 1) := by decide +kernel
theorem dX10_stack_24 : decode cX10_stack 24 = .ok (.imul, 1) := by decide +kernel
theorem dX10_stack_25 : decode cX10_stack 25 = .ok (.iload_n 2, 1) := by decide +kernel
theorem dX10_stack_26 : decode cX10_stack 26 = .ok (.iadd, 1) := by decide +kernel
theorem dX10_stack_27 : decode cX10_stack 27 = .ok (.istore 4, 2) := by decide +kernel
theorem dX10_stack_29 : decode cX10_stack 29 = .ok (.iload_n 3, 1) := by decide +kernel
theorem dX10_stack_30 : decode cX10_stack 30 = .ok (.iconst 0, 1) := by decide +kernel
theorem dX10_stack_31 : decode cX10_stack 31 = .ok (.aload_n 0, 1) := by decide +kernel
theorem dX10_stack_32 : decode cX10_stack 32 = .ok (.getfield 40, 3) := by decide +kernel
theorem dX10_stack_35 : decode cX10_stack 35 = .ok (.iload 4, 2) := by decide +kernel
theorem dX10_stack_37 : decode cX10_stack 37 = .ok (.iaload, 1) := by decide +kernel
theorem dX10_stack_38 : decode cX10_stack 38 = .ok (.iconst 1, 1) := by decide +kernel
theorem dX10_stack_39 : decode cX10_stack 39 = .ok (.isub, 1) := by decide +kernel
theorem dX10_stack_40 : decode cX10_stack 40 = .ok (.invokestatic 115, 3) := by decide +kernel
theorem dX10_stack_43 : decode cX10_stack 43 = .ok (.ifCond .eq 18, 3) := by decide +kernel
theorem dX10_stack_46 : decode cX10_stack 46 = .ok (.aload_n 0, 1) := by decide +kernel
theorem dX10_stack_47 : decode cX10_stack 47 = .ok (.getfield 37, 3) := by decide +kernel
theorem dX10_stack_50 : decode cX10_stack 50 = .ok (.bipush 10, 2) := by decide +kernel
theorem dX10_stack_52 : decode cX10_stack 52 = .ok (.iload 4, 2) := by decide +kernel
theorem dX10_stack_54 : decode cX10_stack 54 = .ok (.imul, 1) := by decide +kernel
theorem dX10_stack_55 : decode cX10_stack 55 = .ok (.iload_n 3, 1) := by decide +kernel
theorem dX10_stack_56 : decode cX10_stack 56 = .ok (.iadd, 1) := by decide +kernel
theorem dX10_stack_57 : decode cX10_stack 57 = .ok (.iaload, 1) := by decide +kernel
theorem dX10_stack_58 : decode cX10_stack 58 = .ok (.goto 4, 3) := by decide +kernel
theorem dX10_stack_61 : decode cX10_stack 61 = .ok (.iconst (-1), 1) := by decide +kernel
theorem dX10_stack_62 : decode cX10_stack 62 = .ok (.ireturn, 1) := by decide +kernel
set_option maxRecDepth 20000 in
theorem ggX10_tallest_X10_throwsIf : GoodIn wsX10_tallest wsX10_throwsIf := goodIn_sub (xc (xt1 (xl (xl (xt4 (xt4 (xt4 (xt1 (xt1 (xt1 (xh)))))))))) (xa (xc (xt1 (xl (xl (xh)))) (xn)) (fun _ h => xt1 (xr (h))))) (by decide +kernel)
set_option maxRecDepth 20000 in
theorem gX10_tallest_X10_throwsIf : GoodIn wsX10_tallest (wsV RX10 122 RX10 yX10_throwsIf wsX10_throwsIf) := goodIn_app (goodIn_sub (xc (xt1 (xl (xl (xt4 (xt4 (xt1 (xt1 (xt1 (xh))))))))) (xc (xt1 (xl (xl (xt4 (xt4 (xt4 (xh))))))) (xc (xt1 (xl (xl (xt4 (xt4 (xt4 (xt1 (xh)))))))) (xc (xt1 (xl (xl (xt4 (xt4 (xt4 (xt1 (xt1 (xh))))))))) (xn))))) (by decide +kernel)) ggX10_tallest_X10_throwsIf
set_option maxRecDepth 20000 in
theorem ggX10_tallest_X10_weight : GoodIn wsX10_tallest wsX10_weight := goodIn_sub (xc (xt1 (xl (xl (xt16 (xt1 (xt1 (xt1 (xh)))))))) (xa (xc (xt1 (xl (xl (xt16 (xt4 (xh)))))) (xc (xt1 (xl (xl (xt4 (xt1 (xt1 (xh))))))) (xc (xt1 (xl (xl (xt16 (xt4 (xt1 (xh))))))) (xn)))) (fun _ h => xt1 (xr (h))))) (by decide +kernel)
set_option maxRecDepth 20000 in
theorem gX10_tallest_X10_weight : GoodIn wsX10_tallest (wsV RX10 133 RX10 yX10_weight wsX10_weight) := goodIn_app (goodIn_sub (xc (xt1 (xl (xl (xt16 (xh))))) (xc (xt1 (xl (xl (xt16 (xt1 (xh)))))) (xc (xt1 (xl (xl (xt16 (xt1 (xt1 (xh))))))) (xc (xt1 (xl (xl (xt4 (xt4 (xt4 (xt1 (xt1 (xh))))))))) (xn))))) (by decide +kernel)) ggX10_tallest_X10_weight
set_option maxRecDepth 20000 in
theorem ggX10_tallest_J6_bitCount_0f7a4 : GoodIn wsX10_tallest wsJ6_bitCount_0f7a4 := goodIn_sub (xc (xt1 (xl (xr (xt1 (xh))))) (xc (xt1 (xl (xr (xt1 (xt1 (xh)))))) (xc (xt1 (xl (xr (xt1 (xt1 (xt1 (xh))))))) (xc (xt1 (xl (xr (xt4 (xh))))) (xn))))) (by decide +kernel)
set_option maxRecDepth 20000 in
theorem gX10_tallest_J6_bitCount_0f7a4 : GoodIn wsX10_tallest (va_wsS RX10 148 yJ6_bitCount_0f7a4 wsJ6_bitCount_0f7a4) := goodIn_app (goodIn_sub (xc (xt1 (xl (xl (xt16 (xt4 (xt1 (xt1 (xh)))))))) (xc (xt1 (xl (xl (xt16 (xt4 (xt1 (xt1 (xt1 (xh))))))))) (xc (xt1 (xl (xr (xh)))) (xn)))) (by decide +kernel)) ggX10_tallest_J6_bitCount_0f7a4
theorem kdX10_tallest_0 : (decide (decode cX10_tallest 0 = .ok (.aload_n 0, 1)) && (decide (decode cX10_tallest 1 = .ok (.iconst 0, 1)) && (decide (decode cX10_tallest 2 = .ok (.putfield 109, 3)) && (decide (decode cX10_tallest 5 = .ok (.iconst 0, 1)) && (decide (decode cX10_tallest 6 = .ok (.istore_n 2, 1)) && (decide (decode cX10_tallest 7 = .ok (.iconst 0, 1)) && (decide (decode cX10_tallest 8 = .ok (.istore_n 3, 1)) && (decide (decode cX10_tallest 9 = .ok (.iload_n 3, 1)) && (decide (decode cX10_tallest 10 = .ok (.bipush 20, 2)) && (decide (decode cX10_tallest 12 = .ok (.if_icmp .ge 68, 3)) && (decide (decode cX10_tallest 15 = .ok (.iload_n 3, 1)) && (decide (decode cX10_tallest 16 = .ok (.aload_n 0, 1)) && (decide (decode cX10_tallest 17 = .ok (.getfield 112, 3)) && (decide (decode cX10_tallest 20 = .ok (.if_icmp .ge 60, 3)) && (decide (decode cX10_tallest 23 = .ok (.iload_n 1, 1)) && (decide (decode cX10_tallest 24 = .ok (.iload_n 3, 1)) && (decide (decode cX10_tallest 25 = .ok (.ishr, 1)) && (decide (decode cX10_tallest 26 = .ok (.iconst 1, 1)) && (decide (decode cX10_tallest 27 = .ok (.iand, 1)) && (decide (decode cX10_tallest 28 = .ok (.ifCond .eq 46, 3)) && (decide (decode cX10_tallest 31 = .ok (.aload_n 0, 1)) && (decide (decode cX10_tallest 32 = .ok (.getfield 31, 3)) && (decide (decode cX10_tallest 35 = .ok (.iload_n 3, 1)) && (decide (decode cX10_tallest 36 = .ok (.iaload, 1)) && (decide (decode cX10_tallest 37 = .ok (.ifCond .eq 6, 3)) && (decide (decode cX10_tallest 40 = .ok (.goto 34, 3)) && (decide (decode cX10_tallest 43 = .ok (.aload_n 0, 1)) && (decide (decode cX10_tallest 44 = .ok (.iload_n 2, 1)) && (decide (decode cX10_tallest 45 = .ok (.bipush 12, 2)) && (decide (decode cX10_tallest 47 = .ok (.if_icmp .ne 7, 3)) && (decide (decode cX10_tallest 50 = .ok (.iconst 1, 1)) && (decide (decode cX10_tallest 51 = .ok (.goto 4, 3)))))))))))))))))))))))))))))))))) = true := by decide +kernel
theorem dX10_tallest_0 : decode cX10_tallest 0 = .ok (.aload_n 0, 1) := of_decide_eq_true (hb_l (kdX10_tallest_0))
theorem dX10_tallest_1 : decode cX10_tallest 1 = .ok (.iconst 0, 1) := of_decide_eq_true (hb_l (hb_r (kdX10_tallest_0)))
theorem dX10_tallest_2 : decode cX10_tallest 2 = .ok (.putfield 109, 3) := of_decide_eq_true (hb_l (hb_r (hb_r (kdX10_tallest_0))))
theorem dX10_tallest_5 : decode cX10_tallest 5 = .ok (.iconst 0, 1) := of_decide_eq_true (hb_l (hb_r (hb_r (hb_r (kdX10_tallest_0)))))
theorem dX10_tallest_6 : decode cX10_tallest 6 = .ok (.istore_n 2, 1) := of_decide_eq_true (hb_l (hb_r (hb_r (hb_r (hb_r (kdX10_tallest_0))))))
theorem dX10_tallest_7 : decode cX10_tallest 7 = .ok (.iconst 0, 1) := of_decide_eq_true (hb_l (hb_r (hb_r (hb_r (hb_r (hb_r (kdX10_tallest_0)))))))
theorem dX10_tallest_8 : decode cX10_tallest 8 = .ok (.istore_n 3, 1) := of_decide_eq_true (hb_l (hb_r (hb_r (hb_r (hb_r (hb_r (hb_r (kdX10_tallest_0))))))))
theorem dX10_tallest_9 : decode cX10_tallest 9 = .ok (.iload_n 3, 1) := of_decide_eq_true (hb_l (hb_r (hb_r (hb_r (hb_r (hb_r (hb_r (hb_r (kdX10_tallest_0)))))))))
theorem dX10_tallest_10 : decode cX10_tallest 10 = .ok (.bipush 20, 2) := of_decide_eq_true (hb_l (hb_r (hb_r (hb_r (hb_r (hb_r (hb_r (hb_r (hb_r (kdX10_tallest_0))))))))))
theorem dX10_tallest_12 : decode cX10_tallest 12 = .ok (.if_icmp .ge 68, 3) := of_decide_eq_true (hb_l (hb_r (hb_r (hb_r (hb_r (hb_r (hb_r (hb_r (hb_r (hb_r (kdX10_tallest_0)))))))))))
theorem dX10_tallest_15 : decode cX10_tallest 15 = .ok (.iload_n 3, 1) := of_decide_eq_true (hb_l (hb_r (hb_r (hb_r (hb_r (hb_r (hb_r (hb_r (hb_r (hb_r (hb_r (kdX10_tallest_0))))))))))))
theorem dX10_tallest_16 : decode cX10_tallest 16 = .ok (.aload_n 0, 1) := of_decide_eq_true (hb_l (hb_r (hb_r (hb_r (hb_r (hb_r (hb_r (hb_r (hb_r (hb_r (hb_r (hb_r (kdX10_tallest_0)))))))))))))
theorem dX10_tallest_17 : decode cX10_tallest 17 = .ok (.getfield 112, 3) := of_decide_eq_true (hb_l (hb_r (hb_r (hb_r (hb_r (hb_r (hb_r (hb_r (hb_r (hb_r (hb_r (hb_r (hb_r (kdX10_tallest_0))))))))))))))
theorem dX10_tallest_20 : decode cX10_tallest 20 = .ok (.if_icmp .ge 60, 3) := of_decide_eq_true (hb_l (hb_r (hb_r (hb_r (hb_r (hb_r (hb_r (hb_r (hb_r (hb_r (hb_r (hb_r (hb_r (hb_r (kdX10_tallest_0)))))))))))))))
theorem dX10_tallest_23 : decode cX10_tallest 23 = .ok (.iload_n 1, 1) := of_decide_eq_true (hb_l (hb_r (hb_r (hb_r (hb_r (hb_r (hb_r (hb_r (hb_r (hb_r (hb_r (hb_r (hb_r (hb_r (hb_r (kdX10_tallest_0))))))))))))))))
theorem dX10_tallest_24 : decode cX10_tallest 24 = .ok (.iload_n 3, 1) := of_decide_eq_true (hb_l (hb_r (hb_r (hb_r (hb_r (hb_r (hb_r (hb_r (hb_r (hb_r (hb_r (hb_r (hb_r (hb_r (hb_r (hb_r (kdX10_tallest_0)))))))))))))))))
theorem dX10_tallest_25 : decode cX10_tallest 25 = .ok (.ishr, 1) := of_decide_eq_true (hb_l (hb_r (hb_r (hb_r (hb_r (hb_r (hb_r (hb_r (hb_r (hb_r (hb_r (hb_r (hb_r (hb_r (hb_r (hb_r (hb_r (kdX10_tallest_0))))))))))))))))))
theorem dX10_tallest_26 : decode cX10_tallest 26 = .ok (.iconst 1, 1) := of_decide_eq_true (hb_l (hb_r (hb_r (hb_r (hb_r (hb_r (hb_r (hb_r (hb_r (hb_r (hb_r (hb_r (hb_r (hb_r (hb_r (hb_r (hb_r (hb_r (kdX10_tallest_0)))))))))))))))))))
theorem dX10_tallest_27 : decode cX10_tallest 27 = .ok (.iand, 1) := of_decide_eq_true (hb_l (hb_r (hb_r (hb_r (hb_r (hb_r (hb_r (hb_r (hb_r (hb_r (hb_r (hb_r (hb_r (hb_r (hb_r (hb_r (hb_r (hb_r (hb_r (kdX10_tallest_0))))))))))))))))))))
theorem dX10_tallest_28 : decode cX10_tallest 28 = .ok (.ifCond .eq 46, 3) := of_decide_eq_true (hb_l (hb_r (hb_r (hb_r (hb_r (hb_r (hb_r (hb_r (hb_r (hb_r (hb_r (hb_r (hb_r (hb_r (hb_r (hb_r (hb_r (hb_r (hb_r (hb_r (kdX10_tallest_0)))))))))))))))))))))
theorem dX10_tallest_31 : decode cX10_tallest 31 = .ok (.aload_n 0, 1) := of_decide_eq_true (hb_l (hb_r (hb_r (hb_r (hb_r (hb_r (hb_r (hb_r (hb_r (hb_r (hb_r (hb_r (hb_r (hb_r (hb_r (hb_r (hb_r (hb_r (hb_r (hb_r (hb_r (kdX10_tallest_0))))))))))))))))))))))
theorem dX10_tallest_32 : decode cX10_tallest 32 = .ok (.getfield 31, 3) := of_decide_eq_true (hb_l (hb_r (hb_r (hb_r (hb_r (hb_r (hb_r (hb_r (hb_r (hb_r (hb_r (hb_r (hb_r (hb_r (hb_r (hb_r (hb_r (hb_r (hb_r (hb_r (hb_r (hb_r (kdX10_tallest_0)))))))))))))))))))))))
theorem dX10_tallest_35 : decode cX10_tallest 35 = .ok (.iload_n 3, 1) := of_decide_eq_true (hb_l (hb_r (hb_r (hb_r (hb_r (hb_r (hb_r (hb_r (hb_r (hb_r (hb_r (hb_r (hb_r (hb_r (hb_r (hb_r (hb_r (hb_r (hb_r (hb_r (hb_r (hb_r (hb_r (kdX10_tallest_0))))))))))))))))))))))))
theorem dX10_tallest_36 : decode cX10_tallest 36 = .ok (.iaload, 1) := of_decide_eq_true (hb_l (hb_r (hb_r (hb_r (hb_r (hb_r (hb_r (hb_r (hb_r (hb_r (hb_r (hb_r (hb_r (hb_r (hb_r (hb_r (hb_r (hb_r (hb_r (hb_r (hb_r (hb_r (hb_r (hb_r (kdX10_tallest_0)))))))))))))))))))))))))
theorem dX10_tallest_37 : decode cX10_tallest 37 = .ok (.ifCond .eq 6, 3) := of_decide_eq_true (hb_l (hb_r (hb_r (hb_r (hb_r (hb_r (hb_r (hb_r (hb_r (hb_r (hb_r (hb_r (hb_r (hb_r (hb_r (hb_r (hb_r (hb_r (hb_r (hb_r (hb_r (hb_r (hb_r (hb_r (hb_r (kdX10_tallest_0))))))))))))))))))))))))))
theorem dX10_tallest_40 : decode cX10_tallest 40 = .ok (.goto 34, 3) := of_decide_eq_true (hb_l (hb_r (hb_r (hb_r (hb_r (hb_r (hb_r (hb_r (hb_r (hb_r (hb_r (hb_r (hb_r (hb_r (hb_r (hb_r (hb_r (hb_r (hb_r (hb_r (hb_r (hb_r (hb_r (hb_r (hb_r (hb_r (kdX10_tallest_0)))))))))))))))))))))))))))
theorem dX10_tallest_43 : decode cX10_tallest 43 = .ok (.aload_n 0, 1) := of_decide_eq_true (hb_l (hb_r (hb_r (hb_r (hb_r (hb_r (hb_r (hb_r (hb_r (hb_r (hb_r (hb_r (hb_r (hb_r (hb_r (hb_r (hb_r (hb_r (hb_r (hb_r (hb_r (hb_r (hb_r (hb_r (hb_r (hb_r (hb_r (kdX10_tallest_0))))))))))))))))))))))))))))
theorem dX10_tallest_44 : decode cX10_tallest 44 = .ok (.iload_n 2, 1) := of_decide_eq_true (hb_l (hb_r (hb_r (hb_r (hb_r (hb_r (hb_r (hb_r (hb_r (hb_r (hb_r (hb_r (hb_r (hb_r (hb_r (hb_r (hb_r (hb_r (hb_r (hb_r (hb_r (hb_r (hb_r (hb_r (hb_r (hb_r (hb_r (hb_r (kdX10_tallest_0)))))))))))))))))))))))))))))
theorem dX10_tallest_45 : decode cX10_tallest 45 = .ok (.bipush 12, 2) := of_decide_eq_true (hb_l (hb_r (hb_r (hb_r (hb_r (hb_r (hb_r (hb_r (hb_r (hb_r (hb_r (hb_r (hb_r (hb_r (hb_r (hb_r (hb_r (hb_r (hb_r (hb_r (hb_r (hb_r (hb_r (hb_r (hb_r (hb_r (hb_r (hb_r (hb_r (kdX10_tallest_0))))))))))))))))))))))))))))))
theorem dX10_tallest_47 : decode cX10_tallest 47 = .ok (.if_icmp .ne 7, 3) := of_decide_eq_true (hb_l (hb_r (hb_r (hb_r (hb_r (hb_r (hb_r (hb_r (hb_r (hb_r (hb_r (hb_r (hb_r (hb_r (hb_r (hb_r (hb_r (hb_r (hb_r (hb_r (hb_r (hb_r (hb_r (hb_r (hb_r (hb_r (hb_r (hb_r (hb_r (hb_r (kdX10_tallest_0)))))))))))))))))))))))))))))))
theorem dX10_tallest_50 : decode cX10_tallest 50 = .ok (.iconst 1, 1) := of_decide_eq_true (hb_l (hb_r (hb_r (hb_r (hb_r (hb_r (hb_r (hb_r (hb_r (hb_r (hb_r (hb_r (hb_r (hb_r (hb_r (hb_r (hb_r (hb_r (hb_r (hb_r (hb_r (hb_r (hb_r (hb_r (hb_r (hb_r (hb_r (hb_r (hb_r (hb_r (hb_r (kdX10_tallest_0))))))))))))))))))))))))))))))))
theorem dX10_tallest_51 : decode cX10_tallest 51 = .ok (.goto 4, 3) := of_decide_eq_true (hb_r (hb_r (hb_r (hb_r (hb_r (hb_r (hb_r (hb_r (hb_r (hb_r (hb_r (hb_r (hb_r (hb_r (hb_r (hb_r (hb_r (hb_r (hb_r (hb_r (hb_r (hb_r (hb_r (hb_r (hb_r (hb_r (hb_r (hb_r (hb_r (hb_r (hb_r (kdX10_tallest_0))))))))))))))))))))))))))))))))
theorem kdX10_tallest_54 : (decide (decode cX10_tallest 54 = .ok (.iconst 0, 1)) && (decide (decode cX10_tallest 55 = .ok (.iconst 1, 1)) && (decide (decode cX10_tallest 56 = .ok (.invokevirtual 122, 3)) && (decide (decode cX10_tallest 59 = .ok (.ifCond .eq 5, 3)) && (decide (decode cX10_tallest 62 = .ok (.iconst 0, 1)) && (decide (decode cX10_tallest 63 = .ok (.ireturn, 1)) && (decide (decode cX10_tallest 64 = .ok (.aload_n 0, 1)) && (decide (decode cX10_tallest 65 = .ok (.getfield 50, 3)) && (decide (decode cX10_tallest 68 = .ok (.iload_n 2, 1)) && (decide (decode cX10_tallest 69 = .ok (.iload_n 3, 1)) && (decide (decode cX10_tallest 70 = .ok (.iastore, 1)) && (decide (decode cX10_tallest 71 = .ok (.iinc 2 1, 3)) && (decide (decode cX10_tallest 74 = .ok (.iinc 3 1, 3)) && (decide (decode cX10_tallest 77 = .ok (.goto (-68), 3)) && (decide (decode cX10_tallest 80 = .ok (.iconst 0, 1)) && (decide (decode cX10_tallest 81 = .ok (.istore_n 3, 1)) && (decide (decode cX10_tallest 82 = .ok (.aload_n 0, 1)) && (decide (decode cX10_tallest 83 = .ok (.getfield 47, 3)) && (decide (decode cX10_tallest 86 = .ok (.iconst 0, 1)) && (decide (decode cX10_tallest 87 = .ok (.iconst 1, 1)) && (decide (decode cX10_tallest 88 = .ok (.bastore, 1)) && (decide (decode cX10_tallest 89 = .ok (.iconst 1, 1)) && (decide (decode cX10_tallest 90 = .ok (.istore 4, 2)) && (decide (decode cX10_tallest 92 = .ok (.iload 4, 2)) && (decide (decode cX10_tallest 94 = .ok (.iconst 1, 1)) && (decide (decode cX10_tallest 95 = .ok (.iload_n 2, 1)) && (decide (decode cX10_tallest 96 = .ok (.ishl, 1)) && (decide (decode cX10_tallest 97 = .ok (.if_icmp .ge 171, 3)) && (decide (decode cX10_tallest 100 = .ok (.iconst 0, 1)) && (decide (decode cX10_tallest 101 = .ok (.istore 5, 2)) && (decide (decode cX10_tallest 103 = .ok (.iconst 0, 1)) && (decide (decode cX10_tallest 104 = .ok (.istore 6, 2)))))))))))))))))))))))))))))))))) = true := by decide +kernel
theorem dX10_tallest_54 : decode cX10_tallest 54 = .ok (.iconst 0, 1) := of_decide_eq_true (hb_l (kdX10_tallest_54))
theorem dX10_tallest_55 : decode cX10_tallest 55 = .ok (.iconst 1, 1) := of_decide_eq_true (hb_l (hb_r (kdX10_tallest_54)))
theorem dX10_tallest_56 : decode cX10_tallest 56 = .ok (.invokevirtual 122, 3) := of_decide_eq_true (hb_l (hb_r (hb_r (kdX10_tallest_54))))
theorem dX10_tallest_59 : decode cX10_tallest 59 = .ok (.ifCond .eq 5, 3) := of_decide_eq_true (hb_l (hb_r (hb_r (hb_r (kdX10_tallest_54)))))
theorem dX10_tallest_62 : decode cX10_tallest 62 = .ok (.iconst 0, 1) := of_decide_eq_true (hb_l (hb_r (hb_r (hb_r (hb_r (kdX10_tallest_54))))))
theorem dX10_tallest_63 : decode cX10_tallest 63 = .ok (.ireturn, 1) := of_decide_eq_true (hb_l (hb_r (hb_r (hb_r (hb_r (hb_r (kdX10_tallest_54)))))))
theorem dX10_tallest_64 : decode cX10_tallest 64 = .ok (.aload_n 0, 1) := of_decide_eq_true (hb_l (hb_r (hb_r (hb_r (hb_r (hb_r (hb_r (kdX10_tallest_54))))))))
theorem dX10_tallest_65 : decode cX10_tallest 65 = .ok (.getfield 50, 3) := of_decide_eq_true (hb_l (hb_r (hb_r (hb_r (hb_r (hb_r (hb_r (hb_r (kdX10_tallest_54)))))))))
theorem dX10_tallest_68 : decode cX10_tallest 68 = .ok (.iload_n 2, 1) := of_decide_eq_true (hb_l (hb_r (hb_r (hb_r (hb_r (hb_r (hb_r (hb_r (hb_r (kdX10_tallest_54))))))))))
theorem dX10_tallest_69 : decode cX10_tallest 69 = .ok (.iload_n 3, 1) := of_decide_eq_true (hb_l (hb_r (hb_r (hb_r (hb_r (hb_r (hb_r (hb_r (hb_r (hb_r (kdX10_tallest_54)))))))))))
theorem dX10_tallest_70 : decode cX10_tallest 70 = .ok (.iastore, 1) := of_decide_eq_true (hb_l (hb_r (hb_r (hb_r (hb_r (hb_r (hb_r (hb_r (hb_r (hb_r (hb_r (kdX10_tallest_54))))))))))))
theorem dX10_tallest_71 : decode cX10_tallest 71 = .ok (.iinc 2 1, 3) := of_decide_eq_true (hb_l (hb_r (hb_r (hb_r (hb_r (hb_r (hb_r (hb_r (hb_r (hb_r (hb_r (hb_r (kdX10_tallest_54)))))))))))))
theorem dX10_tallest_74 : decode cX10_tallest 74 = .ok (.iinc 3 1, 3) := of_decide_eq_true (hb_l (hb_r (hb_r (hb_r (hb_r (hb_r (hb_r (hb_r (hb_r (hb_r (hb_r (hb_r (hb_r (kdX10_tallest_54))))))))))))))
theorem dX10_tallest_77 : decode cX10_tallest 77 = .ok (.goto (-68), 3) := of_decide_eq_true (hb_l (hb_r (hb_r (hb_r (hb_r (hb_r (hb_r (hb_r (hb_r (hb_r (hb_r (hb_r (hb_r (hb_r (kdX10_tallest_54)))))))))))))))
theorem dX10_tallest_80 : decode cX10_tallest 80 = .ok (.iconst 0, 1) := of_decide_eq_true (hb_l (hb_r (hb_r (hb_r (hb_r (hb_r (hb_r (hb_r (hb_r (hb_r (hb_r (hb_r (hb_r (hb_r (hb_r (kdX10_tallest_54))))))))))))))))
theorem dX10_tallest_81 : decode cX10_tallest 81 = .ok (.istore_n 3, 1) := of_decide_eq_true (hb_l (hb_r (hb_r (hb_r (hb_r (hb_r (hb_r (hb_r (hb_r (hb_r (hb_r (hb_r (hb_r (hb_r (hb_r (hb_r (kdX10_tallest_54)))))))))))))))))
theorem dX10_tallest_82 : decode cX10_tallest 82 = .ok (.aload_n 0, 1) := of_decide_eq_true (hb_l (hb_r (hb_r (hb_r (hb_r (hb_r (hb_r (hb_r (hb_r (hb_r (hb_r (hb_r (hb_r (hb_r (hb_r (hb_r (hb_r (kdX10_tallest_54))))))))))))))))))
theorem dX10_tallest_83 : decode cX10_tallest 83 = .ok (.getfield 47, 3) := of_decide_eq_true (hb_l (hb_r (hb_r (hb_r (hb_r (hb_r (hb_r (hb_r (hb_r (hb_r (hb_r (hb_r (hb_r (hb_r (hb_r (hb_r (hb_r (hb_r (kdX10_tallest_54)))))))))))))))))))
theorem dX10_tallest_86 : decode cX10_tallest 86 = .ok (.iconst 0, 1) := of_decide_eq_true (hb_l (hb_r (hb_r (hb_r (hb_r (hb_r (hb_r (hb_r (hb_r (hb_r (hb_r (hb_r (hb_r (hb_r (hb_r (hb_r (hb_r (hb_r (hb_r (kdX10_tallest_54))))))))))))))))))))
theorem dX10_tallest_87 : decode cX10_tallest 87 = .ok (.iconst 1, 1) := of_decide_eq_true (hb_l (hb_r (hb_r (hb_r (hb_r (hb_r (hb_r (hb_r (hb_r (hb_r (hb_r (hb_r (hb_r (hb_r (hb_r (hb_r (hb_r (hb_r (hb_r (hb_r (kdX10_tallest_54)))))))))))))))))))))
theorem dX10_tallest_88 : decode cX10_tallest 88 = .ok (.bastore, 1) := of_decide_eq_true (hb_l (hb_r (hb_r (hb_r (hb_r (hb_r (hb_r (hb_r (hb_r (hb_r (hb_r (hb_r (hb_r (hb_r (hb_r (hb_r (hb_r (hb_r (hb_r (hb_r (hb_r (kdX10_tallest_54))))))))))))))))))))))
theorem dX10_tallest_89 : decode cX10_tallest 89 = .ok (.iconst 1, 1) := of_decide_eq_true (hb_l (hb_r (hb_r (hb_r (hb_r (hb_r (hb_r (hb_r (hb_r (hb_r (hb_r (hb_r (hb_r (hb_r (hb_r (hb_r (hb_r (hb_r (hb_r (hb_r (hb_r (hb_r (kdX10_tallest_54)))))))))))))))))))))))
theorem dX10_tallest_90 : decode cX10_tallest 90 = .ok (.istore 4, 2) := of_decide_eq_true (hb_l (hb_r (hb_r (hb_r (hb_r (hb_r (hb_r (hb_r (hb_r (hb_r (hb_r (hb_r (hb_r (hb_r (hb_r (hb_r (hb_r (hb_r (hb_r (hb_r (hb_r (hb_r (hb_r (kdX10_tallest_54))))))))))))))))))))))))
theorem dX10_tallest_92 : decode cX10_tallest 92 = .ok (.iload 4, 2) := of_decide_eq_true (hb_l (hb_r (hb_r (hb_r (hb_r (hb_r (hb_r (hb_r (hb_r (hb_r (hb_r (hb_r (hb_r (hb_r (hb_r (hb_r (hb_r (hb_r (hb_r (hb_r (hb_r (hb_r (hb_r (hb_r (kdX10_tallest_54)))))))))))))))))))))))))
theorem dX10_tallest_94 : decode cX10_tallest 94 = .ok (.iconst 1, 1) := of_decide_eq_true (hb_l (hb_r (hb_r (hb_r (hb_r (hb_r (hb_r (hb_r (hb_r (hb_r (hb_r (hb_r (hb_r (hb_r (hb_r (hb_r (hb_r (hb_r (hb_r (hb_r (hb_r (hb_r (hb_r (hb_r (hb_r (kdX10_tallest_54))))))))))))))))))))))))))
theorem dX10_tallest_95 : decode cX10_tallest 95 = .ok (.iload_n 2, 1) := of_decide_eq_true (hb_l (hb_r (hb_r (hb_r (hb_r (hb_r (hb_r (hb_r (hb_r (hb_r (hb_r (hb_r (hb_r (hb_r (hb_r (hb_r (hb_r (hb_r (hb_r (hb_r (hb_r (hb_r (hb_r (hb_r (hb_r (hb_r (kdX10_tallest_54)))))))))))))))))))))))))))
theorem dX10_tallest_96 : decode cX10_tallest 96 = .ok (.ishl, 1) := of_decide_eq_true (hb_l (hb_r (hb_r (hb_r (hb_r (hb_r (hb_r (hb_r (hb_r (hb_r (hb_r (hb_r (hb_r (hb_r (hb_r (hb_r (hb_r (hb_r (hb_r (hb_r (hb_r (hb_r (hb_r (hb_r (hb_r (hb_r (hb_r (kdX10_tallest_54))))))))))))))))))))))))))))
theorem dX10_tallest_97 : decode cX10_tallest 97 = .ok (.if_icmp .ge 171, 3) := of_decide_eq_true (hb_l (hb_r (hb_r (hb_r (hb_r (hb_r (hb_r (hb_r (hb_r (hb_r (hb_r (hb_r (hb_r (hb_r (hb_r (hb_r (hb_r (hb_r (hb_r (hb_r (hb_r (hb_r (hb_r (hb_r (hb_r (hb_r (hb_r (hb_r (kdX10_tallest_54)))))))))))))))))))))))))))))
theorem dX10_tallest_100 : decode cX10_tallest 100 = .ok (.iconst 0, 1) := of_decide_eq_true (hb_l (hb_r (hb_r (hb_r (hb_r (hb_r (hb_r (hb_r (hb_r (hb_r (hb_r (hb_r (hb_r (hb_r (hb_r (hb_r (hb_r (hb_r (hb_r (hb_r (hb_r (hb_r (hb_r (hb_r (hb_r (hb_r (hb_r (hb_r (hb_r (kdX10_tallest_54))))))))))))))))))))))))))))))
theorem dX10_tallest_101 : decode cX10_tallest 101 = .ok (.istore 5, 2) := of_decide_eq_true (hb_l (hb_r (hb_r (hb_r (hb_r (hb_r (hb_r (hb_r (hb_r (hb_r (hb_r (hb_r (hb_r (hb_r (hb_r (hb_r (hb_r (hb_r (hb_r (hb_r (hb_r (hb_r (hb_r (hb_r (hb_r (hb_r (hb_r (hb_r (hb_r (hb_r (kdX10_tallest_54)))))))))))))))))))))))))))))))
theorem dX10_tallest_103 : decode cX10_tallest 103 = .ok (.iconst 0, 1) := of_decide_eq_true (hb_l (hb_r (hb_r (hb_r (hb_r (hb_r (hb_r (hb_r (hb_r (hb_r (hb_r (hb_r (hb_r (hb_r (hb_r (hb_r (hb_r (hb_r (hb_r (hb_r (hb_r (hb_r (hb_r (hb_r (hb_r (hb_r (hb_r (hb_r (hb_r (hb_r (hb_r (kdX10_tallest_54))))))))))))))))))))))))))))))))
theorem dX10_tallest_104 : decode cX10_tallest 104 = .ok (.istore 6, 2) := of_decide_eq_true (hb_r (hb_r (hb_r (hb_r (hb_r (hb_r (hb_r (hb_r (hb_r (hb_r (hb_r (hb_r (hb_r (hb_r (hb_r (hb_r (hb_r (hb_r (hb_r (hb_r (hb_r (hb_r (hb_r (hb_r (hb_r (hb_r (hb_r (hb_r (hb_r (hb_r (hb_r (kdX10_tallest_54))))))))))))))))))))))))))))))))
theorem kdX10_tallest_106 : (decide (decode cX10_tallest 106 = .ok (.iload 6, 2)) && (decide (decode cX10_tallest 108 = .ok (.iload_n 2, 1)) && (decide (decode cX10_tallest 109 = .ok (.if_icmp .ge 40, 3)) && (decide (decode cX10_tallest 112 = .ok (.iload 5, 2)) && (decide (decode cX10_tallest 114 = .ok (.iload 4, 2)) && (decide (decode cX10_tallest 116 = .ok (.iload 6, 2)) && (decide (decode cX10_tallest 118 = .ok (.ishr, 1)) && (decide (decode cX10_tallest 119 = .ok (.iconst 1, 1)) && (decide (decode cX10_tallest 120 = .ok (.iand, 1)) && (decide (decode cX10_tallest 121 = .ok (.iconst 1, 1)) && (decide (decode cX10_tallest 122 = .ok (.if_icmp .ne 17, 3)) && (decide (decode cX10_tallest 125 = .ok (.aload_n 0, 1)) && (decide (decode cX10_tallest 126 = .ok (.aload_n 0, 1)) && (decide (decode cX10_tallest 127 = .ok (.getfield 50, 3)) && (decide (decode cX10_tallest 130 = .ok (.iload 6, 2)) && (decide (decode cX10_tallest 132 = .ok (.iaload, 1)) && (decide (decode cX10_tallest 133 = .ok (.invokevirtual 133, 3)) && (decide (decode cX10_tallest 136 = .ok (.goto 4, 3)) && (decide (decode cX10_tallest 139 = .ok (.iconst 0, 1)) && (decide (decode cX10_tallest 140 = .ok (.iadd, 1)) && (decide (decode cX10_tallest 141 = .ok (.istore 5, 2)) && (decide (decode cX10_tallest 143 = .ok (.iinc 6 1, 3)) && (decide (decode cX10_tallest 146 = .ok (.goto (-40), 3)) && (decide (decode cX10_tallest 149 = .ok (.aload_n 0, 1)) && (decide (decode cX10_tallest 150 = .ok (.getfield 47, 3)) && (decide (decode cX10_tallest 153 = .ok (.iload 4, 2)) && (decide (decode cX10_tallest 155 = .ok (.iconst 0, 1)) && (decide (decode cX10_tallest 156 = .ok (.bastore, 1)) && (decide (decode cX10_tallest 157 = .ok (.iconst 0, 1)) && (decide (decode cX10_tallest 158 = .ok (.istore 6, 2)) && (decide (decode cX10_tallest 160 = .ok (.iload 6, 2)) && (decide (decode cX10_tallest 162 = .ok (.iload_n 2, 1)))))))))))))))))))))))))))))))))) = true := by decide +kernel
theorem dX10_tallest_106 : decode cX10_tallest 106 = .ok (.iload 6, 2) := of_decide_eq_true (hb_l (kdX10_tallest_106))
theorem dX10_tallest_108 : decode cX10_tallest 108 = .ok (.iload_n 2, 1) := of_decide_eq_true (hb_l (hb_r (kdX10_tallest_106)))
theorem dX10_tallest_109 : decode cX10_tallest 109 = .ok (.if_icmp .ge 40, 3) := of_decide_eq_true (hb_l (hb_r (hb_r (kdX10_tallest_106))))
theorem dX10_tallest_112 : decode cX10_tallest 112 = .ok (.iload 5, 2) := of_decide_eq_true (hb_l (hb_r (hb_r (hb_r (kdX10_tallest_106)))))
theorem dX10_tallest_114 : decode cX10_tallest 114 = .ok (.iload 4, 2) := of_decide_eq_true (hb_l (hb_r (hb_r (hb_r (hb_r (kdX10_tallest_106))))))
theorem dX10_tallest_116 : decode cX10_tallest 116 = .ok (.iload 6, 2) := of_decide_eq_true (hb_l (hb_r (hb_r (hb_r (hb_r (hb_r (kdX10_tallest_106)))))))
theorem dX10_tallest_118 : decode cX10_tallest 118 = .ok (.ishr, 1) := of_decide_eq_true (hb_l (hb_r (hb_r (hb_r (hb_r (hb_r (hb_r (kdX10_tallest_106))))))))
theorem dX10_tallest_119 : decode cX10_tallest 119 = .ok (.iconst 1, 1) := of_decide_eq_true (hb_l (hb_r (hb_r (hb_r (hb_r (hb_r (hb_r (hb_r (kdX10_tallest_106)))))))))
theorem dX10_tallest_120 : decode cX10_tallest 120 = .ok (.iand, 1) := of_decide_eq_true (hb_l (hb_r (hb_r (hb_r (hb_r (hb_r (hb_r (hb_r (hb_r (kdX10_tallest_106))))))))))
theorem dX10_tallest_121 : decode cX10_tallest 121 = .ok (.iconst 1, 1) := of_decide_eq_true (hb_l (hb_r (hb_r (hb_r (hb_r (hb_r (hb_r (hb_r (hb_r (hb_r (kdX10_tallest_106)))))))))))
theorem dX10_tallest_122 : decode cX10_tallest 122 = .ok (.if_icmp .ne 17, 3) := of_decide_eq_true (hb_l (hb_r (hb_r (hb_r (hb_r (hb_r (hb_r (hb_r (hb_r (hb_r (hb_r (kdX10_tallest_106))))))))))))
theorem dX10_tallest_125 : decode cX10_tallest 125 = .ok (.aload_n 0, 1) := of_decide_eq_true (hb_l (hb_r (hb_r (hb_r (hb_r (hb_r (hb_r (hb_r (hb_r (hb_r (hb_r (hb_r (kdX10_tallest_106)))))))))))))
theorem dX10_tallest_126 : decode cX10_tallest 126 = .ok (.aload_n 0, 1) := of_decide_eq_true (hb_l (hb_r (hb_r (hb_r (hb_r (hb_r (hb_r (hb_r (hb_r (hb_r (hb_r (hb_r (hb_r (kdX10_tallest_106))))))))))))))
theorem dX10_tallest_127 : decode cX10_tallest 127 = .ok (.getfield 50, 3) := of_decide_eq_true (hb_l (hb_r (hb_r (hb_r (hb_r (hb_r (hb_r (hb_r (hb_r (hb_r (hb_r (hb_r (hb_r (hb_r (kdX10_tallest_106)))))))))))))))
theorem dX10_tallest_130 : decode cX10_tallest 130 = .ok (.iload 6, 2) := of_decide_eq_true (hb_l (hb_r (hb_r (hb_r (hb_r (hb_r (hb_r (hb_r (hb_r (hb_r (hb_r (hb_r (hb_r (hb_r (hb_r (kdX10_tallest_106))))))))))))))))
theorem dX10_tallest_132 : decode cX10_tallest 132 = .ok (.iaload, 1) := of_decide_eq_true (hb_l (hb_r (hb_r (hb_r (hb_r (hb_r (hb_r (hb_r (hb_r (hb_r (hb_r (hb_r (hb_r (hb_r (hb_r (hb_r (kdX10_tallest_106)))))))))))))))))
theorem dX10_tallest_133 : decode cX10_tallest 133 = .ok (.invokevirtual 133, 3) := of_decide_eq_true (hb_l (hb_r (hb_r (hb_r (hb_r (hb_r (hb_r (hb_r (hb_r (hb_r (hb_r (hb_r (hb_r (hb_r (hb_r (hb_r (hb_r (kdX10_tallest_106))))))))))))))))))
theorem dX10_tallest_136 : decode cX10_tallest 136 = .ok (.goto 4, 3) := of_decide_eq_true (hb_l (hb_r (hb_r (hb_r (hb_r (hb_r (hb_r (hb_r (hb_r (hb_r (hb_r (hb_r (hb_r (hb_r (hb_r (hb_r (hb_r (hb_r (kdX10_tallest_106)))))))))))))))))))
theorem dX10_tallest_139 : decode cX10_tallest 139 = .ok (.iconst 0, 1) := of_decide_eq_true (hb_l (hb_r (hb_r (hb_r (hb_r (hb_r (hb_r (hb_r (hb_r (hb_r (hb_r (hb_r (hb_r (hb_r (hb_r (hb_r (hb_r (hb_r (hb_r (kdX10_tallest_106))))))))))))))))))))
theorem dX10_tallest_140 : decode cX10_tallest 140 = .ok (.iadd, 1) := of_decide_eq_true (hb_l (hb_r (hb_r (hb_r (hb_r (hb_r (hb_r (hb_r (hb_r (hb_r (hb_r (hb_r (hb_r (hb_r (hb_r (hb_r (hb_r (hb_r (hb_r (hb_r (kdX10_tallest_106)))))))))))))))))))))
theorem dX10_tallest_141 : decode cX10_tallest 141 = .ok (.istore 5, 2) := of_decide_eq_true (hb_l (hb_r (hb_r (hb_r (hb_r (hb_r (hb_r (hb_r (hb_r (hb_r (hb_r (hb_r (hb_r (hb_r (hb_r (hb_r (hb_r (hb_r (hb_r (hb_r (hb_r (kdX10_tallest_106))))))))))))))))))))))
theorem dX10_tallest_143 : decode cX10_tallest 143 = .ok (.iinc 6 1, 3) := of_decide_eq_true (hb_l (hb_r (hb_r (hb_r (hb_r (hb_r (hb_r (hb_r (hb_r (hb_r (hb_r (hb_r (hb_r (hb_r (hb_r (hb_r (hb_r (hb_r (hb_r (hb_r (hb_r (hb_r (kdX10_tallest_106)))))))))))))))))))))))
theorem dX10_tallest_146 : decode cX10_tallest 146 = .ok (.goto (-40), 3) := of_decide_eq_true (hb_l (hb_r (hb_r (hb_r (hb_r (hb_r (hb_r (hb_r (hb_r (hb_r (hb_r (hb_r (hb_r (hb_r (hb_r (hb_r (hb_r (hb_r (hb_r (hb_r (hb_r (hb_r (hb_r (kdX10_tallest_106))))))))))))))))))))))))
theorem dX10_tallest_149 : decode cX10_tallest 149 = .ok (.aload_n 0, 1) := of_decide_eq_true (hb_l (hb_r (hb_r (hb_r (hb_r (hb_r (hb_r (hb_r (hb_r (hb_r (hb_r (hb_r (hb_r (hb_r (hb_r (hb_r (hb_r (hb_r (hb_r (hb_r (hb_r (hb_r (hb_r (hb_r (kdX10_tallest_106)))))))))))))))))))))))))
theorem dX10_tallest_150 : decode cX10_tallest 150 = .ok (.getfield 47, 3) := of_decide_eq_true (hb_l (hb_r (hb_r (hb_r (hb_r (hb_r (hb_r (hb_r (hb_r (hb_r (hb_r (hb_r (hb_r (hb_r (hb_r (hb_r (hb_r (hb_r (hb_r (hb_r (hb_r (hb_r (hb_r (hb_r (hb_r (kdX10_tallest_106))))))))))))))))))))))))))
theorem dX10_tallest_153 : decode cX10_tallest 153 = .ok (.iload 4, 2) := of_decide_eq_true (hb_l (hb_r (hb_r (hb_r (hb_r (hb_r (hb_r (hb_r (hb_r (hb_r (hb_r (hb_r (hb_r (hb_r (hb_r (hb_r (hb_r (hb_r (hb_r (hb_r (hb_r (hb_r (hb_r (hb_r (hb_r (hb_r (kdX10_tallest_106)))))))))))))))))))))))))))
theorem dX10_tallest_155 : decode cX10_tallest 155 = .ok (.iconst 0, 1) := of_decide_eq_true (hb_l (hb_r (hb_r (hb_r (hb_r (hb_r (hb_r (hb_r (hb_r (hb_r (hb_r (hb_r (hb_r (hb_r (hb_r (hb_r (hb_r (hb_r (hb_r (hb_r (hb_r (hb_r (hb_r (hb_r (hb_r (hb_r (hb_r (kdX10_tallest_106))))))))))))))))))))))))))))
theorem dX10_tallest_156 : decode cX10_tallest 156 = .ok (.bastore, 1) := of_decide_eq_true (hb_l (hb_r (hb_r (hb_r (hb_r (hb_r (hb_r (hb_r (hb_r (hb_r (hb_r (hb_r (hb_r (hb_r (hb_r (hb_r (hb_r (hb_r (hb_r (hb_r (hb_r (hb_r (hb_r (hb_r (hb_r (hb_r (hb_r (hb_r (kdX10_tallest_106)))))))))))))))))))))))))))))
theorem dX10_tallest_157 : decode cX10_tallest 157 = .ok (.iconst 0, 1) := of_decide_eq_true (hb_l (hb_r (hb_r (hb_r (hb_r (hb_r (hb_r (hb_r (hb_r (hb_r (hb_r (hb_r (hb_r (hb_r (hb_r (hb_r (hb_r (hb_r (hb_r (hb_r (hb_r (hb_r (hb_r (hb_r (hb_r (hb_r (hb_r (hb_r (hb_r (kdX10_tallest_106))))))))))))))))))))))))))))))
theorem dX10_tallest_158 : decode cX10_tallest 158 = .ok (.istore 6, 2) := of_decide_eq_true (hb_l (hb_r (hb_r (hb_r (hb_r (hb_r (hb_r (hb_r (hb_r (hb_r (hb_r (hb_r (hb_r (hb_r (hb_r (hb_r (hb_r (hb_r (hb_r (hb_r (hb_r (hb_r (hb_r (hb_r (hb_r (hb_r (hb_r (hb_r (hb_r (hb_r (kdX10_tallest_106)))))))))))))))))))))))))))))))
theorem dX10_tallest_160 : decode cX10_tallest 160 = .ok (.iload 6, 2) := of_decide_eq_true (hb_l (hb_r (hb_r (hb_r (hb_r (hb_r (hb_r (hb_r (hb_r (hb_r (hb_r (hb_r (hb_r (hb_r (hb_r (hb_r (hb_r (hb_r (hb_r (hb_r (hb_r (hb_r (hb_r (hb_r (hb_r (hb_r (hb_r (hb_r (hb_r (hb_r (hb_r (kdX10_tallest_106))))))))))))))))))))))))))))))))
theorem dX10_tallest_162 : decode cX10_tallest 162 = .ok (.iload_n 2, 1) := of_decide_eq_true (hb_r (hb_r (hb_r (hb_r (hb_r (hb_r (hb_r (hb_r (hb_r (hb_r (hb_r (hb_r (hb_r (hb_r (hb_r (hb_r (hb_r (hb_r (hb_r (hb_r (hb_r (hb_r (hb_r (hb_r (hb_r (hb_r (hb_r (hb_r (hb_r (hb_r (hb_r (kdX10_tallest_106))))))))))))))))))))))))))))))))
theorem kdX10_tallest_163 : (decide (decode cX10_tallest 163 = .ok (.if_icmp .ge 79, 3)) && (decide (decode cX10_tallest 166 = .ok (.iload 4, 2)) && (decide (decode cX10_tallest 168 = .ok (.iload 6, 2)) && (decide (decode cX10_tallest 170 = .ok (.ishr, 1)) && (decide (decode cX10_tallest 171 = .ok (.iconst 1, 1)) && (decide (decode cX10_tallest 172 = .ok (.iand, 1)) && (decide (decode cX10_tallest 173 = .ok (.iconst 1, 1)) && (decide (decode cX10_tallest 174 = .ok (.if_icmp .ne 62, 3)) && (decide (decode cX10_tallest 177 = .ok (.aload_n 0, 1)) && (decide (decode cX10_tallest 178 = .ok (.getfield 47, 3)) && (decide (decode cX10_tallest 181 = .ok (.iload 4, 2)) && (decide (decode cX10_tallest 183 = .ok (.iconst 1, 1)) && (decide (decode cX10_tallest 184 = .ok (.iload 6, 2)) && (decide (decode cX10_tallest 186 = .ok (.ishl, 1)) && (decide (decode cX10_tallest 187 = .ok (.iconst (-1), 1)) && (decide (decode cX10_tallest 188 = .ok (.ixor, 1)) && (decide (decode cX10_tallest 189 = .ok (.iand, 1)) && (decide (decode cX10_tallest 190 = .ok (.baload, 1)) && (decide (decode cX10_tallest 191 = .ok (.ifCond .eq 45, 3)) && (decide (decode cX10_tallest 194 = .ok (.iload 5, 2)) && (decide (decode cX10_tallest 196 = .ok (.aload_n 0, 1)) && (decide (decode cX10_tallest 197 = .ok (.aload_n 0, 1)) && (decide (decode cX10_tallest 198 = .ok (.getfield 50, 3)) && (decide (decode cX10_tallest 201 = .ok (.iload 6, 2)) && (decide (decode cX10_tallest 203 = .ok (.iaload, 1)) && (decide (decode cX10_tallest 204 = .ok (.invokevirtual 133, 3)) && (decide (decode cX10_tallest 207 = .ok (.isub, 1)) && (decide (decode cX10_tallest 208 = .ok (.aload_n 0, 1)) && (decide (decode cX10_tallest 209 = .ok (.getfield 16, 3)) && (decide (decode cX10_tallest 212 = .ok (.aload_n 0, 1)) && (decide (decode cX10_tallest 213 = .ok (.getfield 19, 3)) && (decide (decode cX10_tallest 216 = .ok (.aload_n 0, 1)))))))))))))))))))))))))))))))))) = true := by decide +kernel
theorem dX10_tallest_163 : decode cX10_tallest 163 = .ok (.if_icmp .ge 79, 3) := of_decide_eq_true (hb_l (kdX10_tallest_163))
theorem dX10_tallest_166 : decode cX10_tallest 166 = .ok (.iload 4, 2) := of_decide_eq_true (hb_l (hb_r (kdX10_tallest_163)))
theorem dX10_tallest_168 : decode cX10_tallest 168 = .ok (.iload 6, 2) := of_decide_eq_true (hb_l (hb_r (hb_r (kdX10_tallest_163))))
theorem dX10_tallest_170 : decode cX10_tallest 170 = .ok (.ishr, 1) := of_decide_eq_true (hb_l (hb_r (hb_r (hb_r (kdX10_tallest_163)))))
theorem dX10_tallest_171 : decode cX10_tallest 171 = .ok (.iconst 1, 1) := of_decide_eq_true (hb_l (hb_r (hb_r (hb_r (hb_r (kdX10_tallest_163))))))
theorem dX10_tallest_172 : decode cX10_tallest 172 = .ok (.iand, 1) := of_decide_eq_true (hb_l (hb_r (hb_r (hb_r (hb_r (hb_r (kdX10_tallest_163)))))))
theorem dX10_tallest_173 : decode cX10_tallest 173 = .ok (.iconst 1, 1) := of_decide_eq_true (hb_l (hb_r (hb_r (hb_r (hb_r (hb_r (hb_r (kdX10_tallest_163))))))))
theorem dX10_tallest_174 : decode cX10_tallest 174 = .ok (.if_icmp .ne 62, 3) := of_decide_eq_true (hb_l (hb_r (hb_r (hb_r (hb_r (hb_r (hb_r (hb_r (kdX10_tallest_163)))))))))
theorem dX10_tallest_177 : decode cX10_tallest 177 = .ok (.aload_n 0, 1) := of_decide_eq_true (hb_l (hb_r (hb_r (hb_r (hb_r (hb_r (hb_r (hb_r (hb_r (kdX10_tallest_163))))))))))
theorem dX10_tallest_178 : decode cX10_tallest 178 = .ok (.getfield 47, 3) := of_decide_eq_true (hb_l (hb_r (hb_r (hb_r (hb_r (hb_r (hb_r (hb_r (hb_r (hb_r (kdX10_tallest_163)))))))))))
theorem dX10_tallest_181 : decode cX10_tallest 181 = .ok (.iload 4, 2) := of_decide_eq_true (hb_l (hb_r (hb_r (hb_r (hb_r (hb_r (hb_r (hb_r (hb_r (hb_r (hb_r (kdX10_tallest_163))))))))))))
theorem dX10_tallest_183 : decode cX10_tallest 183 = .ok (.iconst 1, 1) := of_decide_eq_true (hb_l (hb_r (hb_r (hb_r (hb_r (hb_r (hb_r (hb_r (hb_r (hb_r (hb_r (hb_r (kdX10_tallest_163)))))))))))))
theorem dX10_tallest_184 : decode cX10_tallest 184 = .ok (.iload 6, 2) := of_decide_eq_true (hb_l (hb_r (hb_r (hb_r (hb_r (hb_r (hb_r (hb_r (hb_r (hb_r (hb_r (hb_r (hb_r (kdX10_tallest_163))))))))))))))
theorem dX10_tallest_186 : decode cX10_tallest 186 = .ok (.ishl, 1) := of_decide_eq_true (hb_l (hb_r (hb_r (hb_r (hb_r (hb_r (hb_r (hb_r (hb_r (hb_r (hb_r (hb_r (hb_r (hb_r (kdX10_tallest_163)))))))))))))))
theorem dX10_tallest_187 : decode cX10_tallest 187 = .ok (.iconst (-1), 1) := of_decide_eq_true (hb_l (hb_r (hb_r (hb_r (hb_r (hb_r (hb_r (hb_r (hb_r (hb_r (hb_r (hb_r (hb_r (hb_r (hb_r (kdX10_tallest_163))))))))))))))))
theorem dX10_tallest_188 : decode cX10_tallest 188 = .ok (.ixor, 1) := of_decide_eq_true (hb_l (hb_r (hb_r (hb_r (hb_r (hb_r (hb_r (hb_r (hb_r (hb_r (hb_r (hb_r (hb_r (hb_r (hb_r (hb_r (kdX10_tallest_163)))))))))))))))))
theorem dX10_tallest_189 : decode cX10_tallest 189 = .ok (.iand, 1) := of_decide_eq_true (hb_l (hb_r (hb_r (hb_r (hb_r (hb_r (hb_r (hb_r (hb_r (hb_r (hb_r (hb_r (hb_r (hb_r (hb_r (hb_r (hb_r (kdX10_tallest_163))))))))))))))))))
theorem dX10_tallest_190 : decode cX10_tallest 190 = .ok (.baload, 1) := of_decide_eq_true (hb_l (hb_r (hb_r (hb_r (hb_r (hb_r (hb_r (hb_r (hb_r (hb_r (hb_r (hb_r (hb_r (hb_r (hb_r (hb_r (hb_r (hb_r (kdX10_tallest_163)))))))))))))))))))
theorem dX10_tallest_191 : decode cX10_tallest 191 = .ok (.ifCond .eq 45, 3) := of_decide_eq_true (hb_l (hb_r (hb_r (hb_r (hb_r (hb_r (hb_r (hb_r (hb_r (hb_r (hb_r (hb_r (hb_r (hb_r (hb_r (hb_r (hb_r (hb_r (hb_r (kdX10_tallest_163))))))))))))))))))))
theorem dX10_tallest_194 : decode cX10_tallest 194 = .ok (.iload 5, 2) := of_decide_eq_true (hb_l (hb_r (hb_r (hb_r (hb_r (hb_r (hb_r (hb_r (hb_r (hb_r (hb_r (hb_r (hb_r (hb_r (hb_r (hb_r (hb_r (hb_r (hb_r (hb_r (kdX10_tallest_163)))))))))))))))))))))
theorem dX10_tallest_196 : decode cX10_tallest 196 = .ok (.aload_n 0, 1) := of_decide_eq_true (hb_l (hb_r (hb_r (hb_r (hb_r (hb_r (hb_r (hb_r (hb_r (hb_r (hb_r (hb_r (hb_r (hb_r (hb_r (hb_r (hb_r (hb_r (hb_r (hb_r (hb_r (kdX10_tallest_163))))))))))))))))))))))
theorem dX10_tallest_197 : decode cX10_tallest 197 = .ok (.aload_n 0, 1) := of_decide_eq_true (hb_l (hb_r (hb_r (hb_r (hb_r (hb_r (hb_r (hb_r (hb_r (hb_r (hb_r (hb_r (hb_r (hb_r (hb_r (hb_r (hb_r (hb_r (hb_r (hb_r (hb_r (hb_r (kdX10_tallest_163)))))))))))))))))))))))
theorem dX10_tallest_198 : decode cX10_tallest 198 = .ok (.getfield 50, 3) := of_decide_eq_true (hb_l (hb_r (hb_r (hb_r (hb_r (hb_r (hb_r (hb_r (hb_r (hb_r (hb_r (hb_r (hb_r (hb_r (hb_r (hb_r (hb_r (hb_r (hb_r (hb_r (hb_r (hb_r (hb_r (kdX10_tallest_163))))))))))))))))))))))))
theorem dX10_tallest_201 : decode cX10_tallest 201 = .ok (.iload 6, 2) := of_decide_eq_true (hb_l (hb_r (hb_r (hb_r (hb_r (hb_r (hb_r (hb_r (hb_r (hb_r (hb_r (hb_r (hb_r (hb_r (hb_r (hb_r (hb_r (hb_r (hb_r (hb_r (hb_r (hb_r (hb_r (hb_r (kdX10_tallest_163)))))))))))))))))))))))))
theorem dX10_tallest_203 : decode cX10_tallest 203 = .ok (.iaload, 1) := of_decide_eq_true (hb_l (hb_r (hb_r (hb_r (hb_r (hb_r (hb_r (hb_r (hb_r (hb_r (hb_r (hb_r (hb_r (hb_r (hb_r (hb_r (hb_r (hb_r (hb_r (hb_r (hb_r (hb_r (hb_r (hb_r (hb_r (kdX10_tallest_163))))))))))))))))))))))))))
theorem dX10_tallest_204 : decode cX10_tallest 204 = .ok (.invokevirtual 133, 3) := of_decide_eq_true (hb_l (hb_r (hb_r (hb_r (hb_r (hb_r (hb_r (hb_r (hb_r (hb_r (hb_r (hb_r (hb_r (hb_r (hb_r (hb_r (hb_r (hb_r (hb_r (hb_r (hb_r (hb_r (hb_r (hb_r (hb_r (hb_r (kdX10_tallest_163)))))))))))))))))))))))))))
theorem dX10_tallest_207 : decode cX10_tallest 207 = .ok (.isub, 1) := of_decide_eq_true (hb_l (hb_r (hb_r (hb_r (hb_r (hb_r (hb_r (hb_r (hb_r (hb_r (hb_r (hb_r (hb_r (hb_r (hb_r (hb_r (hb_r (hb_r (hb_r (hb_r (hb_r (hb_r (hb_r (hb_r (hb_r (hb_r (hb_r (kdX10_tallest_163))))))))))))))))))))))))))))
theorem dX10_tallest_208 : decode cX10_tallest 208 = .ok (.aload_n 0, 1) := of_decide_eq_true (hb_l (hb_r (hb_r (hb_r (hb_r (hb_r (hb_r (hb_r (hb_r (hb_r (hb_r (hb_r (hb_r (hb_r (hb_r (hb_r (hb_r (hb_r (hb_r (hb_r (hb_r (hb_r (hb_r (hb_r (hb_r (hb_r (hb_r (hb_r (kdX10_tallest_163)))))))))))))))))))))))))))))
theorem dX10_tallest_209 : decode cX10_tallest 209 = .ok (.getfield 16, 3) := of_decide_eq_true (hb_l (hb_r (hb_r (hb_r (hb_r (hb_r (hb_r (hb_r (hb_r (hb_r (hb_r (hb_r (hb_r (hb_r (hb_r (hb_r (hb_r (hb_r (hb_r (hb_r (hb_r (hb_r (hb_r (hb_r (hb_r (hb_r (hb_r (hb_r (hb_r (kdX10_tallest_163))))))))))))))))))))))))))))))
theorem dX10_tallest_212 : decode cX10_tallest 212 = .ok (.aload_n 0, 1) := of_decide_eq_true (hb_l (hb_r (hb_r (hb_r (hb_r (hb_r (hb_r (hb_r (hb_r (hb_r (hb_r (hb_r (hb_r (hb_r (hb_r (hb_r (hb_r (hb_r (hb_r (hb_r (hb_r (hb_r (hb_r (hb_r (hb_r (hb_r (hb_r (hb_r (hb_r (hb_r (kdX10_tallest_163)))))))))))))))))))))))))))))))
theorem dX10_tallest_213 : decode cX10_tallest 213 = .ok (.getfield 19, 3) := of_decide_eq_true (hb_l (hb_r (hb_r (hb_r (hb_r (hb_r (hb_r (hb_r (hb_r (hb_r (hb_r (hb_r (hb_r (hb_r (hb_r (hb_r (hb_r (hb_r (hb_r (hb_r (hb_r (hb_r (hb_r (hb_r (hb_r (hb_r (hb_r (hb_r (hb_r (hb_r (hb_r (kdX10_tallest_163))))))))))))))))))))))))))))))))
theorem dX10_tallest_216 : decode cX10_tallest 216 = .ok (.aload_n 0, 1) := of_decide_eq_true (hb_r (hb_r (hb_r (hb_r (hb_r (hb_r (hb_r (hb_r (hb_r (hb_r (hb_r (hb_r (hb_r (hb_r (hb_r (hb_r (hb_r (hb_r (hb_r (hb_r (hb_r (hb_r (hb_r (hb_r (hb_r (hb_r (hb_r (hb_r (hb_r (hb_r (hb_r (kdX10_tallest_163))))))))))))))))))))))))))))))))
theorem kdX10_tallest_217 : (decide (decode cX10_tallest 217 = .ok (.getfield 50, 3)) && (decide (decode cX10_tallest 220 = .ok (.iload 6, 2)) && (decide (decode cX10_tallest 222 = .ok (.iaload, 1)) && (decide (decode cX10_tallest 223 = .ok (.iaload, 1)) && (decide (decode cX10_tallest 224 = .ok (.iaload, 1)) && (decide (decode cX10_tallest 225 = .ok (.if_icmp .gt 11, 3)) && (decide (decode cX10_tallest 228 = .ok (.aload_n 0, 1)) && (decide (decode cX10_tallest 229 = .ok (.getfield 47, 3)) && (decide (decode cX10_tallest 232 = .ok (.iload 4, 2)) && (decide (decode cX10_tallest 234 = .ok (.iconst 1, 1)) && (decide (decode cX10_tallest 235 = .ok (.bastore, 1)) && (decide (decode cX10_tallest 236 = .ok (.iinc 6 1, 3)) && (decide (decode cX10_tallest 239 = .ok (.goto (-79), 3)) && (decide (decode cX10_tallest 242 = .ok (.aload_n 0, 1)) && (decide (decode cX10_tallest 243 = .ok (.getfield 47, 3)) && (decide (decode cX10_tallest 246 = .ok (.iload 4, 2)) && (decide (decode cX10_tallest 248 = .ok (.baload, 1)) && (decide (decode cX10_tallest 249 = .ok (.ifCond .eq 13, 3)) && (decide (decode cX10_tallest 252 = .ok (.iload_n 3, 1)) && (decide (decode cX10_tallest 253 = .ok (.iload 4, 2)) && (decide (decode cX10_tallest 255 = .ok (.invokestatic 148, 3)) && (decide (decode cX10_tallest 258 = .ok (.invokestatic 153, 3)) && (decide (decode cX10_tallest 261 = .ok (.istore_n 3, 1)) && (decide (decode cX10_tallest 262 = .ok (.iinc 4 1, 3)) && (decide (decode cX10_tallest 265 = .ok (.goto (-173), 3)) && (decide (decode cX10_tallest 268 = .ok (.iload_n 3, 1)) && (decide (decode cX10_tallest 269 = .ok (.ireturn, 1))))))))))))))))))))))))))))) = true := by decide +kernel
theorem dX10_tallest_217 : decode cX10_tallest 217 = .ok (.getfield 50, 3) := of_decide_eq_true (hb_l (kdX10_tallest_217))
theorem dX10_tallest_220 : decode cX10_tallest 220 = .ok (.iload 6, 2) := of_decide_eq_true (hb_l (hb_r (kdX10_tallest_217)))
theorem dX10_tallest_222 : decode cX10_tallest 222 = .ok (.iaload, 1) := of_decide_eq_true (hb_l (hb_r (hb_r (kdX10_tallest_217))))
theorem dX10_tallest_223 : decode cX10_tallest 223 = .ok (.iaload, 1) := of_decide_eq_true (hb_l (hb_r (hb_r (hb_r (kdX10_tallest_217)))))
theorem dX10_tallest_224 : decode cX10_tallest 224 = .ok (.iaload, 1) := of_decide_eq_true (hb_l (hb_r (hb_r (hb_r (hb_r (kdX10_tallest_217))))))
theorem dX10_tallest_225 : decode cX10_tallest 225 = .ok (.if_icmp .gt 11, 3) := of_decide_eq_true (hb_l (hb_r (hb_r (hb_r (hb_r (hb_r (kdX10_tallest_217)))))))
theorem dX10_tallest_228 : decode cX10_tallest 228 = .ok (.aload_n 0, 1) := of_decide_eq_true (hb_l (hb_r (hb_r (hb_r (hb_r (hb_r (hb_r (kdX10_tallest_217))))))))
theorem dX10_tallest_229 : decode cX10_tallest 229 = .ok (.getfield 47, 3) := of_decide_eq_true (hb_l (hb_r (hb_r (hb_r (hb_r (hb_r (hb_r (hb_r (kdX10_tallest_217)))))))))
theorem dX10_tallest_232 : decode cX10_tallest 232 = .ok (.iload 4, 2) := of_decide_eq_true (hb_l (hb_r (hb_r (hb_r (hb_r (hb_r (hb_r (hb_r (hb_r (kdX10_tallest_217))))))))))
theorem dX10_tallest_234 : decode cX10_tallest 234 = .ok (.iconst 1, 1) := of_decide_eq_true (hb_l (hb_r (hb_r (hb_r (hb_r (hb_r (hb_r (hb_r (hb_r (hb_r (kdX10_tallest_217)))))))))))
theorem dX10_tallest_235 : decode cX10_tallest 235 = .ok (.bastore, 1) := of_decide_eq_true (hb_l (hb_r (hb_r (hb_r (hb_r (hb_r (hb_r (hb_r (hb_r (hb_r (hb_r (kdX10_tallest_217))))))))))))
theorem dX10_tallest_236 : decode cX10_tallest 236 = .ok (.iinc 6 1, 3) := of_decide_eq_true (hb_l (hb_r (hb_r (hb_r (hb_r (hb_r (hb_r (hb_r (hb_r (hb_r (hb_r (hb_r (kdX10_tallest_217)))))))))))))
theorem dX10_tallest_239 : decode cX10_tallest 239 = .ok (.goto (-79), 3) := of_decide_eq_true (hb_l (hb_r (hb_r (hb_r (hb_r (hb_r (hb_r (hb_r (hb_r (hb_r (hb_r (hb_r (hb_r (kdX10_tallest_217))))))))))))))
theorem dX10_tallest_242 : decode cX10_tallest 242 = .ok (.aload_n 0, 1) := of_decide_eq_true (hb_l (hb_r (hb_r (hb_r (hb_r (hb_r (hb_r (hb_r (hb_r (hb_r (hb_r (hb_r (hb_r (hb_r (kdX10_tallest_217)))))))))))))))
theorem dX10_tallest_243 : decode cX10_tallest 243 = .ok (.getfield 47, 3) := of_decide_eq_true (hb_l (hb_r (hb_r (hb_r (hb_r (hb_r (hb_r (hb_r (hb_r (hb_r (hb_r (hb_r (hb_r (hb_r (hb_r (kdX10_tallest_217))))))))))))))))
theorem dX10_tallest_246 : decode cX10_tallest 246 = .ok (.iload 4, 2) := of_decide_eq_true (hb_l (hb_r (hb_r (hb_r (hb_r (hb_r (hb_r (hb_r (hb_r (hb_r (hb_r (hb_r (hb_r (hb_r (hb_r (hb_r (kdX10_tallest_217)))))))))))))))))
theorem dX10_tallest_248 : decode cX10_tallest 248 = .ok (.baload, 1) := of_decide_eq_true (hb_l (hb_r (hb_r (hb_r (hb_r (hb_r (hb_r (hb_r (hb_r (hb_r (hb_r (hb_r (hb_r (hb_r (hb_r (hb_r (hb_r (kdX10_tallest_217))))))))))))))))))
theorem dX10_tallest_249 : decode cX10_tallest 249 = .ok (.ifCond .eq 13, 3) := of_decide_eq_true (hb_l (hb_r (hb_r (hb_r (hb_r (hb_r (hb_r (hb_r (hb_r (hb_r (hb_r (hb_r (hb_r (hb_r (hb_r (hb_r (hb_r (hb_r (kdX10_tallest_217)))))))))))))))))))
theorem dX10_tallest_252 : decode cX10_tallest 252 = .ok (.iload_n 3, 1) := of_decide_eq_true (hb_l (hb_r (hb_r (hb_r (hb_r (hb_r (hb_r (hb_r (hb_r (hb_r (hb_r (hb_r (hb_r (hb_r (hb_r (hb_r (hb_r (hb_r (hb_r (kdX10_tallest_217))))))))))))))))))))
theorem dX10_tallest_253 : decode cX10_tallest 253 = .ok (.iload 4, 2) := of_decide_eq_true (hb_l (hb_r (hb_r (hb_r (hb_r (hb_r (hb_r (hb_r (hb_r (hb_r (hb_r (hb_r (hb_r (hb_r (hb_r (hb_r (hb_r (hb_r (hb_r (hb_r (kdX10_tallest_217)))))))))))))))))))))
theorem dX10_tallest_255 : decode cX10_tallest 255 = .ok (.invokestatic 148, 3) := of_decide_eq_true (hb_l (hb_r (hb_r (hb_r (hb_r (hb_r (hb_r (hb_r (hb_r (hb_r (hb_r (hb_r (hb_r (hb_r (hb_r (hb_r (hb_r (hb_r (hb_r (hb_r (hb_r (kdX10_tallest_217))))))))))))))))))))))
theorem dX10_tallest_258 : decode cX10_tallest 258 = .ok (.invokestatic 153, 3) := of_decide_eq_true (hb_l (hb_r (hb_r (hb_r (hb_r (hb_r (hb_r (hb_r (hb_r (hb_r (hb_r (hb_r (hb_r (hb_r (hb_r (hb_r (hb_r (hb_r (hb_r (hb_r (hb_r (hb_r (kdX10_tallest_217)))))))))))))))))))))))
theorem dX10_tallest_261 : decode cX10_tallest 261 = .ok (.istore_n 3, 1) := of_decide_eq_true (hb_l (hb_r (hb_r (hb_r (hb_r (hb_r (hb_r (hb_r (hb_r (hb_r (hb_r (hb_r (hb_r (hb_r (hb_r (hb_r (hb_r (hb_r (hb_r (hb_r (hb_r (hb_r (hb_r (kdX10_tallest_217))))))))))))))))))))))))
theorem dX10_tallest_262 : decode cX10_tallest 262 = .ok (.iinc 4 1, 3) := of_decide_eq_true (hb_l (hb_r (hb_r (hb_r (hb_r (hb_r (hb_r (hb_r (hb_r (hb_r (hb_r (hb_r (hb_r (hb_r (hb_r (hb_r (hb_r (hb_r (hb_r (hb_r (hb_r (hb_r (hb_r (hb_r (kdX10_tallest_217)))))))))))))))))))))))))
theorem dX10_tallest_265 : decode cX10_tallest 265 = .ok (.goto (-173), 3) := of_decide_eq_true (hb_l (hb_r (hb_r (hb_r (hb_r (hb_r (hb_r (hb_r (hb_r (hb_r (hb_r (hb_r (hb_r (hb_r (hb_r (hb_r (hb_r (hb_r (hb_r (hb_r (hb_r (hb_r (hb_r (hb_r (hb_r (kdX10_tallest_217))))))))))))))))))))))))))
theorem dX10_tallest_268 : decode cX10_tallest 268 = .ok (.iload_n 3, 1) := of_decide_eq_true (hb_l (hb_r (hb_r (hb_r (hb_r (hb_r (hb_r (hb_r (hb_r (hb_r (hb_r (hb_r (hb_r (hb_r (hb_r (hb_r (hb_r (hb_r (hb_r (hb_r (hb_r (hb_r (hb_r (hb_r (hb_r (hb_r (kdX10_tallest_217)))))))))))))))))))))))))))
theorem dX10_tallest_269 : decode cX10_tallest 269 = .ok (.ireturn, 1) := of_decide_eq_true (hb_r (hb_r (hb_r (hb_r (hb_r (hb_r (hb_r (hb_r (hb_r (hb_r (hb_r (hb_r (hb_r (hb_r (hb_r (hb_r (hb_r (hb_r (hb_r (hb_r (hb_r (hb_r (hb_r (hb_r (hb_r (hb_r (kdX10_tallest_217)))))))))))))))))))))))))))
theorem dX10_feed_0 : decode cX10_feed 0 = .ok (.aload_n 0, 1) := by decide +kernel
theorem dX10_feed_1 : decode cX10_feed 1 = .ok (.iconst 0, 1) := by decide +kernel
theorem dX10_feed_2 : decode cX10_feed 2 = .ok (.putfield 109, 3) := by decide +kernel
theorem dX10_feed_5 : decode cX10_feed 5 = .ok (.aload_n 0, 1) := by decide +kernel
theorem dX10_feed_6 : decode cX10_feed 6 = .ok (.getfield 158, 3) := by decide +kernel
theorem dX10_feed_9 : decode cX10_feed 9 = .ok (.bipush 20, 2) := by decide +kernel
theorem dX10_feed_11 : decode cX10_feed 11 = .ok (.iadd, 1) := by decide +kernel
theorem dX10_feed_12 : decode cX10_feed 12 = .ok (.sipush 400, 3) := by decide +kernel
theorem dX10_feed_15 : decode cX10_feed 15 = .ok (.if_icmp .le 5, 3) := by decide +kernel
theorem dX10_feed_18 : decode cX10_feed 18 = .ok (.iconst (-1), 1) := by decide +kernel
theorem dX10_feed_19 : decode cX10_feed 19 = .ok (.ireturn, 1) := by decide +kernel
theorem dX10_feed_20 : decode cX10_feed 20 = .ok (.aload_n 0, 1) := by decide +kernel
theorem dX10_feed_21 : decode cX10_feed 21 = .ok (.getfield 70, 3) := by decide +kernel
theorem dX10_feed_24 : decode cX10_feed 24 = .ok (.iconst 0, 1) := by decide +kernel
theorem dX10_feed_25 : decode cX10_feed 25 = .ok (.iload_n 1, 1) := by decide +kernel
theorem dX10_feed_26 : decode cX10_feed 26 = .ok (.iastore, 1) := by decide +kernel
theorem dX10_feed_27 : decode cX10_feed 27 = .ok (.aload_n 0, 1) := by decide +kernel
theorem dX10_feed_28 : decode cX10_feed 28 = .ok (.getfield 70, 3) := by decide +kernel
theorem dX10_feed_31 : decode cX10_feed 31 = .ok (.iconst 1, 1) := by decide +kernel
theorem dX10_feed_32 : decode cX10_feed 32 = .ok (.iload_n 2, 1) := by decide +kernel
theorem dX10_feed_33 : decode cX10_feed 33 = .ok (.iastore, 1) := by decide +kernel
theorem dX10_feed_34 : decode cX10_feed 34 = .ok (.aload_n 0, 1) := by decide +kernel
theorem dX10_feed_35 : decode cX10_feed 35 = .ok (.getfield 70, 3) := by decide +kernel
theorem dX10_feed_38 : decode cX10_feed 38 = .ok (.iconst 2, 1) := by decide +kernel
theorem dX10_feed_39 : decode cX10_feed 39 = .ok (.iload_n 3, 1) := by decide +kernel
theorem dX10_feed_40 : decode cX10_feed 40 = .ok (.iastore, 1) := by decide +kernel
theorem dX10_feed_41 : decode cX10_feed 41 = .ok (.aload_n 0, 1) := by decide +kernel
theorem dX10_feed_42 : decode cX10_feed 42 = .ok (.getfield 70, 3) := by decide +kernel
theorem dX10_feed_45 : decode cX10_feed 45 = .ok (.iconst 3, 1) := by decide +kernel
theorem dX10_feed_46 : decode cX10_feed 46 = .ok (.iload 4, 2) := by decide +kernel
theorem dX10_feed_48 : decode cX10_feed 48 = .ok (.iastore, 1) := by decide +kernel
theorem dX10_feed_49 : decode cX10_feed 49 = .ok (.aload_n 0, 1) := by decide +kernel
theorem dX10_feed_50 : decode cX10_feed 50 = .ok (.getfield 70, 3) := by decide +kernel
theorem dX10_feed_53 : decode cX10_feed 53 = .ok (.iconst 4, 1) := by decide +kernel
theorem dX10_feed_54 : decode cX10_feed 54 = .ok (.iload 5, 2) := by decide +kernel
theorem dX10_feed_56 : decode cX10_feed 56 = .ok (.iastore, 1) := by decide +kernel
theorem dX10_feed_57 : decode cX10_feed 57 = .ok (.iconst 0, 1) := by decide +kernel
theorem dX10_feed_58 : decode cX10_feed 58 = .ok (.istore 6, 2) := by decide +kernel
theorem dX10_feed_60 : decode cX10_feed 60 = .ok (.iload 6, 2) := by decide +kernel
theorem dX10_feed_62 : decode cX10_feed 62 = .ok (.bipush 20, 2) := by decide +kernel
theorem dX10_feed_64 : decode cX10_feed 64 = .ok (.if_icmp .ge 42, 3) := by decide +kernel
theorem dX10_feed_67 : decode cX10_feed 67 = .ok (.aload_n 0, 1) := by decide +kernel
theorem dX10_feed_68 : decode cX10_feed 68 = .ok (.getfield 62, 3) := by decide +kernel
theorem dX10_feed_71 : decode cX10_feed 71 = .ok (.aload_n 0, 1) := by decide +kernel
theorem dX10_feed_72 : decode cX10_feed 72 = .ok (.getfield 158, 3) := by decide +kernel
theorem dX10_feed_75 : decode cX10_feed 75 = .ok (.iload 6, 2) := by decide +kernel
theorem dX10_feed_77 : decode cX10_feed 77 = .ok (.iadd, 1) := by decide +kernel
theorem dX10_feed_78 : decode cX10_feed 78 = .ok (.aload_n 0, 1) := by decide +kernel
theorem dX10_feed_79 : decode cX10_feed 79 = .ok (.getfield 70, 3) := by decide +kernel
theorem dX10_feed_82 : decode cX10_feed 82 = .ok (.iload 6, 2) := by decide +kernel
theorem dX10_feed_84 : decode cX10_feed 84 = .ok (.iconst 4, 1) := by decide +kernel
theorem dX10_feed_85 : decode cX10_feed 85 = .ok (.idiv, 1) := by decide +kernel
theorem dX10_feed_86 : decode cX10_feed 86 = .ok (.iaload, 1) := by decide +kernel
theorem dX10_feed_87 : decode cX10_feed 87 = .ok (.bipush 24, 2) := by decide +kernel
theorem dX10_feed_89 : decode cX10_feed 89 = .ok (.bipush 8, 2) := by decide +kernel
theorem dX10_feed_91 : decode cX10_feed 91 = .ok (.iload 6, 2) := by decide +kernel
theorem dX10_feed_93 : decode cX10_feed 93 = .ok (.iconst 4, 1) := by decide +kernel
theorem dX10_feed_94 : decode cX10_feed 94 = .ok (.irem, 1) := by decide +kernel
theorem dX10_feed_95 : decode cX10_feed 95 = .ok (.imul, 1) := by decide +kernel
theorem dX10_feed_96 : decode cX10_feed 96 = .ok (.isub, 1) := by decide +kernel
theorem dX10_feed_97 : decode cX10_feed 97 = .ok (.ishr, 1) := by decide +kernel
theorem dX10_feed_98 : decode cX10_feed 98 = .ok (.i2b, 1) := by decide +kernel
theorem dX10_feed_99 : decode cX10_feed 99 = .ok (.bastore, 1) := by decide +kernel
theorem dX10_feed_100 : decode cX10_feed 100 = .ok (.iinc 6 1, 3) := by decide +kernel
theorem dX10_feed_103 : decode cX10_feed 103 = .ok (.goto (-43), 3) := by decide +kernel
theorem dX10_feed_106 : decode cX10_feed 106 = .ok (.aload_n 0, 1) := by decide +kernel
theorem dX10_feed_107 : decode cX10_feed 107 = .ok (.dup, 1) := by decide +kernel
theorem dX10_feed_108 : decode cX10_feed 108 = .ok (.getfield 158, 3) := by decide +kernel
theorem dX10_feed_111 : decode cX10_feed 111 = .ok (.bipush 20, 2) := by decide +kernel
theorem dX10_feed_113 : decode cX10_feed 113 = .ok (.iadd, 1) := by decide +kernel
theorem dX10_feed_114 : decode cX10_feed 114 = .ok (.putfield 158, 3) := by decide +kernel
theorem dX10_feed_117 : decode cX10_feed 117 = .ok (.aload_n 0, 1) := by decide +kernel
theorem dX10_feed_118 : decode cX10_feed 118 = .ok (.getfield 158, 3) := by decide +kernel
theorem dX10_feed_121 : decode cX10_feed 121 = .ok (.ireturn, 1) := by decide +kernel
theorem dX10_end_0 : decode cX10_end 0 = .ok (.aload_n 0, 1) := by decide +kernel
theorem dX10_end_1 : decode cX10_end 1 = .ok (.iconst 0, 1) := by decide +kernel
theorem dX10_end_2 : decode cX10_end 2 = .ok (.putfield 109, 3) := by decide +kernel
theorem dX10_end_5 : decode cX10_end 5 = .ok (.iload_n 1, 1) := by decide +kernel
theorem dX10_end_6 : decode cX10_end 6 = .ok (.ifCond .lt 11, 3) := by decide +kernel
theorem dX10_end_9 : decode cX10_end 9 = .ok (.iload_n 1, 1) := by decide +kernel
theorem dX10_end_10 : decode cX10_end 10 = .ok (.aload_n 0, 1) := by decide +kernel
theorem dX10_end_11 : decode cX10_end 11 = .ok (.getfield 158, 3) := by decide +kernel
theorem dX10_end_14 : decode cX10_end 14 = .ok (.if_icmp .le 5, 3) := by decide +kernel
theorem dX10_end_17 : decode cX10_end 17 = .ok (.iconst 0, 1) := by decide +kernel
theorem dX10_end_18 : decode cX10_end 18 = .ok (.ireturn, 1) := by decide +kernel
theorem dX10_end_19 : decode cX10_end 19 = .ok (.aload_n 0, 1) := by decide +kernel
theorem dX10_end_20 : decode cX10_end 20 = .ok (.iload_n 1, 1) := by decide +kernel
theorem dX10_end_21 : decode cX10_end 21 = .ok (.putfield 158, 3) := by decide +kernel
theorem dX10_end_24 : decode cX10_end 24 = .ok (.iconst 1, 1) := by decide +kernel
theorem dX10_end_25 : decode cX10_end 25 = .ok (.ireturn, 1) := by decide +kernel
set_option maxRecDepth 20000 in
theorem ggX10_rate_X10_in : GoodIn wsX10_rate wsX10_in := goodIn_sub (xc (xt1 (xl (xt4 (xt1 (xh))))) (xn)) (by decide +kernel)
set_option maxRecDepth 20000 in
theorem gX10_rate_X10_in : GoodIn wsX10_rate (va_wsS RX10 115 yX10_in wsX10_in) := goodIn_app (goodIn_sub (xc (xt1 (xl (xt1 (xt1 (xh))))) (xc (xt1 (xl (xt1 (xt1 (xt1 (xh)))))) (xc (xt1 (xl (xt4 (xh)))) (xn)))) (by decide +kernel)) ggX10_rate_X10_in
set_option maxRecDepth 20000 in
theorem ggX10_rate_X10_throwsIf : GoodIn wsX10_rate wsX10_throwsIf := goodIn_sub (xc (xt1 (xl (xt4 (xt4 (xt1 (xh)))))) (xa (xc (xt1 (xl (xh))) (xn)) (fun _ h => xt1 (xr (h))))) (by decide +kernel)
set_option maxRecDepth 20000 in
theorem gX10_rate_X10_throwsIf : GoodIn wsX10_rate (wsV RX10 122 RX10 yX10_throwsIf wsX10_throwsIf) := goodIn_app (goodIn_sub (xc (xt1 (xl (xt4 (xt1 (xt1 (xh)))))) (xc (xt1 (xl (xt4 (xt1 (xt1 (xt1 (xh))))))) (xc (xt1 (xl (xt4 (xt4 (xh))))) (xc (xt1 (xl (xt4 (xh)))) (xn))))) (by decide +kernel)) ggX10_rate_X10_throwsIf
theorem dX10_rate_0 : decode cX10_rate 0 = .ok (.aload_n 0, 1) := by decide +kernel
theorem dX10_rate_1 : decode cX10_rate 1 = .ok (.iconst 0, 1) := by decide +kernel
theorem dX10_rate_2 : decode cX10_rate 2 = .ok (.putfield 109, 3) := by decide +kernel
theorem dX10_rate_5 : decode cX10_rate 5 = .ok (.aload_n 0, 1) := by decide +kernel
theorem dX10_rate_6 : decode cX10_rate 6 = .ok (.iload_n 1, 1) := by decide +kernel
theorem dX10_rate_7 : decode cX10_rate 7 = .ok (.iconst 0, 1) := by decide +kernel
theorem dX10_rate_8 : decode cX10_rate 8 = .ok (.bipush 7, 2) := by decide +kernel
theorem dX10_rate_10 : decode cX10_rate 10 = .ok (.invokestatic 115, 3) := by decide +kernel
theorem dX10_rate_13 : decode cX10_rate 13 = .ok (.ifCond .ne 7, 3) := by decide +kernel
theorem dX10_rate_16 : decode cX10_rate 16 = .ok (.iconst 1, 1) := by decide +kernel
theorem dX10_rate_17 : decode cX10_rate 17 = .ok (.goto 4, 3) := by decide +kernel
theorem dX10_rate_20 : decode cX10_rate 20 = .ok (.iconst 0, 1) := by decide +kernel
theorem dX10_rate_21 : decode cX10_rate 21 = .ok (.iconst 1, 1) := by decide +kernel
theorem dX10_rate_22 : decode cX10_rate 22 = .ok (.invokevirtual 122, 3) := by decide +kernel
theorem dX10_rate_25 : decode cX10_rate 25 = .ok (.ifCond .ne 27, 3) := by decide +kernel
theorem dX10_rate_28 : decode cX10_rate 28 = .ok (.aload_n 0, 1) := by decide +kernel
theorem dX10_rate_29 : decode cX10_rate 29 = .ok (.iload_n 2, 1) := by decide +kernel
theorem dX10_rate_30 : decode cX10_rate 30 = .ok (.iconst 0, 1) := by decide +kernel
theorem dX10_rate_31 : decode cX10_rate 31 = .ok (.sipush 1000, 3) := by decide +kernel
theorem dX10_rate_34 : decode cX10_rate 34 = .ok (.invokestatic 115, 3) := by decide +kernel
theorem dX10_rate_37 : decode cX10_rate 37 = .ok (.ifCond .ne 7, 3) := by decide +kernel
theorem dX10_rate_40 : decode cX10_rate 40 = .ok (.iconst 1, 1) := by decide +kernel
theorem dX10_rate_41 : decode cX10_rate 41 = .ok (.goto 4, 3) := by decide +kernel
theorem dX10_rate_44 : decode cX10_rate 44 = .ok (.iconst 0, 1) := by decide +kernel
theorem dX10_rate_45 : decode cX10_rate 45 = .ok (.iconst 2, 1) := by decide +kernel
theorem dX10_rate_46 : decode cX10_rate 46 = .ok (.invokevirtual 122, 3) := by decide +kernel
theorem dX10_rate_49 : decode cX10_rate 49 = .ok (.ifCond .eq 4, 3) := by decide +kernel
theorem dX10_rate_52 : decode cX10_rate 52 = .ok (.return_, 1) := by decide +kernel
theorem dX10_rate_53 : decode cX10_rate 53 = .ok (.aload_n 0, 1) := by decide +kernel
theorem dX10_rate_54 : decode cX10_rate 54 = .ok (.getfield 53, 3) := by decide +kernel
theorem dX10_rate_57 : decode cX10_rate 57 = .ok (.iload_n 1, 1) := by decide +kernel
theorem dX10_rate_58 : decode cX10_rate 58 = .ok (.iload_n 2, 1) := by decide +kernel
theorem dX10_rate_59 : decode cX10_rate 59 = .ok (.iastore, 1) := by decide +kernel
theorem dX10_rate_60 : decode cX10_rate 60 = .ok (.return_, 1) := by decide +kernel
theorem dX10_isAt_0 : decode cX10_isAt 0 = .ok (.aload_n 0, 1) := by decide +kernel
theorem dX10_isAt_1 : decode cX10_isAt 1 = .ok (.getfield 161, 3) := by decide +kernel
theorem dX10_isAt_4 : decode cX10_isAt 4 = .ok (.aload_n 0, 1) := by decide +kernel
theorem dX10_isAt_5 : decode cX10_isAt 5 = .ok (.getfield 164, 3) := by decide +kernel
theorem dX10_isAt_8 : decode cX10_isAt 8 = .ok (.if_icmp .ge 33, 3) := by decide +kernel
theorem dX10_isAt_11 : decode cX10_isAt 11 = .ok (.aload_n 0, 1) := by decide +kernel
theorem dX10_isAt_12 : decode cX10_isAt 12 = .ok (.getfield 62, 3) := by decide +kernel
theorem dX10_isAt_15 : decode cX10_isAt 15 = .ok (.aload_n 0, 1) := by decide +kernel
theorem dX10_isAt_16 : decode cX10_isAt 16 = .ok (.getfield 161, 3) := by decide +kernel
theorem dX10_isAt_19 : decode cX10_isAt 19 = .ok (.baload, 1) := by decide +kernel
theorem dX10_isAt_20 : decode cX10_isAt 20 = .ok (.iload_n 1, 1) := by decide +kernel
theorem dX10_isAt_21 : decode cX10_isAt 21 = .ok (.if_icmp .lt 20, 3) := by decide +kernel
theorem dX10_isAt_24 : decode cX10_isAt 24 = .ok (.aload_n 0, 1) := by decide +kernel
theorem dX10_isAt_25 : decode cX10_isAt 25 = .ok (.getfield 62, 3) := by decide +kernel
theorem dX10_isAt_28 : decode cX10_isAt 28 = .ok (.aload_n 0, 1) := by decide +kernel
theorem dX10_isAt_29 : decode cX10_isAt 29 = .ok (.getfield 161, 3) := by decide +kernel
theorem dX10_isAt_32 : decode cX10_isAt 32 = .ok (.baload, 1) := by decide +kernel
theorem dX10_isAt_33 : decode cX10_isAt 33 = .ok (.iload_n 2, 1) := by decide +kernel
theorem dX10_isAt_34 : decode cX10_isAt 34 = .ok (.if_icmp .gt 7, 3) := by decide +kernel
theorem dX10_isAt_37 : decode cX10_isAt 37 = .ok (.iconst 1, 1) := by decide +kernel
theorem dX10_isAt_38 : decode cX10_isAt 38 = .ok (.goto 4, 3) := by decide +kernel
theorem dX10_isAt_41 : decode cX10_isAt 41 = .ok (.iconst 0, 1) := by decide +kernel
theorem dX10_isAt_42 : decode cX10_isAt 42 = .ok (.ireturn, 1) := by decide +kernel
set_option maxRecDepth 20000 in
theorem ggX10_blanks_X10_isAt : GoodIn wsX10_blanks wsX10_isAt := goodIn_sub (xc (xt1 (xl (xt4 (xt1 (xt1 (xh)))))) (xa (xc (xt1 (xl (xh))) (xc (xt1 (xl (xt4 (xt1 (xt1 (xt1 (xh))))))) (xc (xt1 (xl (xt4 (xt4 (xh))))) (xn)))) (fun _ h => xt1 (xr (h))))) (by decide +kernel)
set_option maxRecDepth 20000 in
theorem gX10_blanks_X10_isAt : GoodIn wsX10_blanks (wsV RX10 167 RX10 yX10_isAt wsX10_isAt) := goodIn_app (goodIn_sub (xc (xt1 (xl (xt1 (xt1 (xh))))) (xc (xt1 (xl (xt1 (xt1 (xt1 (xh)))))) (xc (xt1 (xl (xt4 (xh)))) (xc (xt1 (xl (xt4 (xt1 (xh))))) (xn))))) (by decide +kernel)) ggX10_blanks_X10_isAt
theorem dX10_blanks_0 : decode cX10_blanks 0 = .ok (.aload_n 0, 1) := by decide +kernel
theorem dX10_blanks_1 : decode cX10_blanks 1 = .ok (.bipush 32, 2) := by decide +kernel
theorem dX10_blanks_3 : decode cX10_blanks 3 = .ok (.bipush 32, 2) := by decide +kernel
theorem dX10_blanks_5 : decode cX10_blanks 5 = .ok (.invokevirtual 167, 3) := by decide +kernel
theorem dX10_blanks_8 : decode cX10_blanks 8 = .ok (.ifCond .eq 16, 3) := by decide +kernel
theorem dX10_blanks_11 : decode cX10_blanks 11 = .ok (.aload_n 0, 1) := by decide +kernel
theorem dX10_blanks_12 : decode cX10_blanks 12 = .ok (.dup, 1) := by decide +kernel
theorem dX10_blanks_13 : decode cX10_blanks 13 = .ok (.getfield 161, 3) := by decide +kernel
theorem dX10_blanks_16 : decode cX10_blanks 16 = .ok (.iconst 1, 1) := by decide +kernel
theorem dX10_blanks_17 : decode cX10_blanks 17 = .ok (.iadd, 1) := by decide +kernel
theorem dX10_blanks_18 : decode cX10_blanks 18 = .ok (.putfield 161, 3) := by decide +kernel
theorem dX10_blanks_21 : decode cX10_blanks 21 = .ok (.goto (-21), 3) := by decide +kernel
theorem dX10_blanks_24 : decode cX10_blanks 24 = .ok (.aload_n 0, 1) := by decide +kernel
theorem dX10_blanks_25 : decode cX10_blanks 25 = .ok (.aload_n 0, 1) := by decide +kernel
theorem dX10_blanks_26 : decode cX10_blanks 26 = .ok (.getfield 161, 3) := by decide +kernel
theorem dX10_blanks_29 : decode cX10_blanks 29 = .ok (.putfield 170, 3) := by decide +kernel
theorem dX10_blanks_32 : decode cX10_blanks 32 = .ok (.return_, 1) := by decide +kernel
theorem dX10_word_0 : decode cX10_word 0 = .ok (.iload_n 0, 1) := by decide +kernel
theorem dX10_word_1 : decode cX10_word 1 = .ok (.tableswitch 43 0 3 #[31, 34, 37, 40], 31) := by decide +kernel
theorem dX10_word_32 : decode cX10_word 32 = .ok (.ldc 173, 2) := by decide +kernel
theorem dX10_word_34 : decode cX10_word 34 = .ok (.areturn, 1) := by decide +kernel
theorem dX10_word_35 : decode cX10_word 35 = .ok (.ldc 175, 2) := by decide +kernel
theorem dX10_word_37 : decode cX10_word 37 = .ok (.areturn, 1) := by decide +kernel
theorem dX10_word_38 : decode cX10_word 38 = .ok (.ldc 176, 2) := by decide +kernel
theorem dX10_word_40 : decode cX10_word 40 = .ok (.areturn, 1) := by decide +kernel
theorem dX10_word_41 : decode cX10_word 41 = .ok (.ldc 177, 2) := by decide +kernel
theorem dX10_word_43 : decode cX10_word 43 = .ok (.areturn, 1) := by decide +kernel
theorem dX10_word_44 : decode cX10_word 44 = .ok (.ldc 178, 2) := by decide +kernel
theorem dX10_word_46 : decode cX10_word 46 = .ok (.areturn, 1) := by decide +kernel
set_option maxRecDepth 20000 in
theorem ggX10_isWord_J0_length_8abf5 : GoodIn wsX10_isWord wsJ0_length_8abf5 := goodIn_sub (xc (xt1 (xl (xl (xt4 (xt1 (xt1 (xt1 (xh)))))))) (xc (xt1 (xl (xl (xt4 (xt4 (xh)))))) (xc (xt1 (xl (xl (xt4 (xt4 (xt1 (xh))))))) (xc (xt1 (xl (xl (xt4 (xt4 (xt1 (xt1 (xh)))))))) (xc (xt1 (xl (xl (xt4 (xt4 (xt1 (xt1 (xt1 (xh))))))))) (xc (xt1 (xl (xl (xt4 (xt1 (xt1 (xh))))))) (xc (xt1 (xl (xl (xt4 (xt4 (xt4 (xh))))))) (xc (xt1 (xl (xl (xt4 (xt4 (xt4 (xt1 (xh)))))))) (xc (xt1 (xl (xl (xt4 (xt4 (xt4 (xt1 (xt1 (xh))))))))) (xn)))))))))) (by decide +kernel)
set_option maxRecDepth 20000 in
theorem gX10_isWord_J0_length_8abf5 : GoodIn wsX10_isWord (wsV RX10 180 RJ0 yJ0_length_8abf5 wsJ0_length_8abf5) := goodIn_app (goodIn_sub (xc (xt1 (xl (xl (xt1 (xt1 (xt1 (xh))))))) (xc (xt1 (xl (xl (xt4 (xh))))) (xc (xt1 (xl (xl (xt4 (xt1 (xh)))))) (xc (xt1 (xl (xl (xt4 (xt1 (xt1 (xh))))))) (xn))))) (by decide +kernel)) ggX10_isWord_J0_length_8abf5
set_option maxRecDepth 20000 in
theorem ggX10_isWord_J0_charAt_5068e : GoodIn wsX10_isWord wsJ0_charAt_5068e := goodIn_sub (xc (xt1 (xl (xl (xt16 (xt1 (xt1 (xh))))))) (xa (xc (xt1 (xl (xl (xt4 (xt4 (xh)))))) (xc (xt1 (xl (xl (xt16 (xt1 (xt1 (xt1 (xh)))))))) (xc (xt1 (xl (xl (xt16 (xt4 (xh)))))) (xc (xt1 (xl (xl (xt16 (xt4 (xt1 (xh))))))) (xc (xt1 (xl (xl (xt4 (xt1 (xt1 (xh))))))) (xc (xt1 (xl (xl (xt16 (xt4 (xt1 (xt1 (xh)))))))) (xc (xt1 (xl (xl (xt4 (xt4 (xt4 (xt1 (xh)))))))) (xc (xt1 (xl (xl (xt4 (xt4 (xt4 (xt1 (xt1 (xh))))))))) (xc (xt1 (xl (xl (xt16 (xt4 (xt1 (xt1 (xt1 (xh))))))))) (xc (xt1 (xl (xr (xl (xh))))) (xc (xt1 (xl (xr (xl (xt1 (xh)))))) (xc (xt1 (xl (xr (xl (xt1 (xt1 (xh))))))) (xc (xt1 (xl (xr (xl (xt1 (xt1 (xt1 (xh)))))))) (xc (xt1 (xl (xr (xl (xt4 (xh)))))) (xc (xt1 (xl (xr (xl (xt4 (xt1 (xh))))))) (xc (xt1 (xl (xr (xl (xt4 (xt1 (xt1 (xh)))))))) (xc (xt1 (xl (xr (xl (xt4 (xt1 (xt1 (xt1 (xh))))))))) (xc (xt1 (xl (xr (xl (xt4 (xt4 (xh))))))) (xc (xt1 (xl (xr (xl (xt4 (xt4 (xt1 (xh)))))))) (xc (xt1 (xl (xr (xl (xt4 (xt4 (xt1 (xt1 (xh))))))))) (xc (xt1 (xl (xr (xl (xt4 (xt4 (xt1 (xt1 (xt1 (xh)))))))))) (xc (xt1 (xl (xr (xl (xt4 (xt4 (xt4 (xh)))))))) (xc (xt1 (xl (xr (xl (xt4 (xt4 (xt4 (xt1 (xh))))))))) (xc (xt1 (xl (xr (xl (xt4 (xt4 (xt4 (xt1 (xt1 (xh)))))))))) (xn))))))))))))))))))))))))) (xc (xt1 (xl (xr (xl (xt4 (xt4 (xt4 (xt1 (xt1 (xt1 (xh))))))))))) (xc (xt1 (xl (xr (xl (xt16 (xh)))))) (xc (xt1 (xl (xr (xl (xt16 (xt1 (xh))))))) (xc (xt1 (xl (xr (xl (xt16 (xt1 (xt1 (xh)))))))) (xc (xt1 (xl (xr (xl (xt16 (xt1 (xt1 (xt1 (xh))))))))) (xc (xt1 (xl (xr (xl (xt16 (xt4 (xh))))))) (xc (xt1 (xl (xr (xl (xt16 (xt4 (xt1 (xh)))))))) (xc (xt1 (xl (xr (xl (xt16 (xt4 (xt1 (xt1 (xh))))))))) (xc (xt1 (xl (xr (xl (xt16 (xt4 (xt1 (xt1 (xt1 (xh)))))))))) (xc (xt1 (xl (xr (xr (xh))))) (xc (xt1 (xl (xr (xr (xt1 (xh)))))) (xc (xt1 (xl (xr (xr (xt1 (xt1 (xh))))))) (xc (xt1 (xl (xr (xr (xt1 (xt1 (xt1 (xh)))))))) (xn)))))))))))))))) (by decide +kernel)
set_option maxRecDepth 20000 in
theorem gX10_isWord_J0_charAt_5068e : GoodIn wsX10_isWord (wsV RX10 186 RJ0 yJ0_charAt_5068e wsJ0_charAt_5068e) := goodIn_app (goodIn_sub (xc (xt1 (xl (xl (xt4 (xt4 (xt4 (xt1 (xt1 (xt1 (xh)))))))))) (xc (xt1 (xl (xl (xt16 (xh))))) (xc (xt1 (xl (xl (xt16 (xt1 (xh)))))) (xc (xt1 (xl (xl (xt4 (xt1 (xt1 (xh))))))) (xn))))) (by decide +kernel)) ggX10_isWord_J0_charAt_5068e
theorem dX10_isWord_0 : decode cX10_isWord 0 = .ok (.aload_n 0, 1) := by decide +kernel
theorem dX10_isWord_1 : decode cX10_isWord 1 = .ok (.getfield 161, 3) := by decide +kernel
theorem dX10_isWord_4 : decode cX10_isWord 4 = .ok (.aload_n 0, 1) := by decide +kernel
theorem dX10_isWord_5 : decode cX10_isWord 5 = .ok (.getfield 170, 3) := by decide +kernel
theorem dX10_isWord_8 : decode cX10_isWord 8 = .ok (.isub, 1) := by decide +kernel
theorem dX10_isWord_9 : decode cX10_isWord 9 = .ok (.aload_n 1, 1) := by decide +kernel
theorem dX10_isWord_10 : decode cX10_isWord 10 = .ok (.invokevirtual 180, 3) := by decide +kernel
theorem dX10_isWord_13 : decode cX10_isWord 13 = .ok (.if_icmp .ne 7, 3) := by decide +kernel
theorem dX10_isWord_16 : decode cX10_isWord 16 = .ok (.iconst 1, 1) := by decide +kernel
theorem dX10_isWord_17 : decode cX10_isWord 17 = .ok (.goto 4, 3) := by decide +kernel
theorem dX10_isWord_20 : decode cX10_isWord 20 = .ok (.iconst 0, 1) := by decide +kernel
theorem dX10_isWord_21 : decode cX10_isWord 21 = .ok (.istore_n 2, 1) := by decide +kernel
theorem dX10_isWord_22 : decode cX10_isWord 22 = .ok (.iconst 0, 1) := by decide +kernel
theorem dX10_isWord_23 : decode cX10_isWord 23 = .ok (.istore_n 3, 1) := by decide +kernel
theorem dX10_isWord_24 : decode cX10_isWord 24 = .ok (.iload_n 2, 1) := by decide +kernel
theorem dX10_isWord_25 : decode cX10_isWord 25 = .ok (.ifCond .eq 42, 3) := by decide +kernel
theorem dX10_isWord_28 : decode cX10_isWord 28 = .ok (.iload_n 3, 1) := by decide +kernel
theorem dX10_isWord_29 : decode cX10_isWord 29 = .ok (.aload_n 1, 1) := by decide +kernel
theorem dX10_isWord_30 : decode cX10_isWord 30 = .ok (.invokevirtual 180, 3) := by decide +kernel
theorem dX10_isWord_33 : decode cX10_isWord 33 = .ok (.if_icmp .ge 34, 3) := by decide +kernel
theorem dX10_isWord_36 : decode cX10_isWord 36 = .ok (.aload_n 0, 1) := by decide +kernel
theorem dX10_isWord_37 : decode cX10_isWord 37 = .ok (.getfield 62, 3) := by decide +kernel
theorem dX10_isWord_40 : decode cX10_isWord 40 = .ok (.aload_n 0, 1) := by decide +kernel
theorem dX10_isWord_41 : decode cX10_isWord 41 = .ok (.getfield 170, 3) := by decide +kernel
theorem dX10_isWord_44 : decode cX10_isWord 44 = .ok (.iload_n 3, 1) := by decide +kernel
theorem dX10_isWord_45 : decode cX10_isWord 45 = .ok (.iadd, 1) := by decide +kernel
theorem dX10_isWord_46 : decode cX10_isWord 46 = .ok (.baload, 1) := by decide +kernel
theorem dX10_isWord_47 : decode cX10_isWord 47 = .ok (.aload_n 1, 1) := by decide +kernel
theorem dX10_isWord_48 : decode cX10_isWord 48 = .ok (.iload_n 3, 1) := by decide +kernel
theorem dX10_isWord_49 : decode cX10_isWord 49 = .ok (.invokevirtual 186, 3) := by decide +kernel
theorem dX10_isWord_52 : decode cX10_isWord 52 = .ok (.if_icmp .ne 7, 3) := by decide +kernel
theorem dX10_isWord_55 : decode cX10_isWord 55 = .ok (.iconst 1, 1) := by decide +kernel
theorem dX10_isWord_56 : decode cX10_isWord 56 = .ok (.goto 4, 3) := by decide +kernel
theorem dX10_isWord_59 : decode cX10_isWord 59 = .ok (.iconst 0, 1) := by decide +kernel
theorem dX10_isWord_60 : decode cX10_isWord 60 = .ok (.istore_n 2, 1) := by decide +kernel
theorem dX10_isWord_61 : decode cX10_isWord 61 = .ok (.iinc 3 1, 3) := by decide +kernel
theorem dX10_isWord_64 : decode cX10_isWord 64 = .ok (.goto (-40), 3) := by decide +kernel
theorem dX10_isWord_67 : decode cX10_isWord 67 = .ok (.iload_n 2, 1) := by decide +kernel
theorem dX10_isWord_68 : decode cX10_isWord 68 = .ok (.ireturn, 1) := by decide +kernel
set_option maxRecDepth 20000 in
theorem ggX10_readNote_X10_blanks : GoodIn wsX10_readNote wsX10_blanks := goodIn_sub (xc (xt1 (xl (xl (xt4 (xt4 (xt1 (xh))))))) (xa (xc (xt1 (xl (xl (xh)))) (xc (xt1 (xl (xl (xt1 (xh))))) (xc (xt1 (xl (xl (xt4 (xt4 (xt1 (xt1 (xh)))))))) (xc (xt1 (xl (xl (xt4 (xt4 (xt1 (xt1 (xt1 (xh))))))))) (xc (xt1 (xl (xl (xt4 (xt4 (xt4 (xh))))))) (xc (xt1 (xl (xl (xt4 (xt4 (xh)))))) (xc (xt1 (xl (xl (xt4 (xt4 (xt4 (xt1 (xh)))))))) (xc (xt1 (xl (xl (xt4 (xh))))) (xc (xt1 (xl (xl (xt1 (xt1 (xh)))))) (xn)))))))))) (fun _ h => xt1 (xr (h))))) (by decide +kernel)
set_option maxRecDepth 20000 in
theorem gX10_readNote_X10_blanks : GoodIn wsX10_readNote (wsV RX10 190 RX10 yX10_blanks wsX10_blanks) := goodIn_app (goodIn_sub (xc (xt1 (xl (xl (xt4 (xt1 (xh)))))) (xc (xt1 (xl (xl (xt4 (xt1 (xt1 (xh))))))) (xc (xt1 (xl (xl (xt4 (xt1 (xt1 (xt1 (xh)))))))) (xc (xt1 (xl (xl (xt4 (xt4 (xh)))))) (xn))))) (by decide +kernel)) ggX10_readNote_X10_blanks
set_option maxRecDepth 20000 in
theorem ggX10_readNote_X10_isAt : GoodIn wsX10_readNote wsX10_isAt := goodIn_sub (xc (xt1 (xl (xl (xt4 (xt4 (xt4 (xt1 (xh)))))))) (xa (xc (xt1 (xl (xl (xh)))) (xc (xt1 (xl (xl (xt4 (xh))))) (xc (xt1 (xl (xl (xt1 (xt1 (xh)))))) (xn)))) (fun _ h => xt1 (xr (h))))) (by decide +kernel)
set_option maxRecDepth 20000 in
theorem gX10_readNote_X10_isAt : GoodIn wsX10_readNote (wsV RX10 167 RX10 yX10_isAt wsX10_isAt) := goodIn_app (goodIn_sub (xc (xt1 (xl (xl (xt4 (xt4 (xt1 (xt1 (xh)))))))) (xc (xt1 (xl (xl (xt4 (xt4 (xt1 (xt1 (xt1 (xh))))))))) (xc (xt1 (xl (xl (xt4 (xt4 (xt4 (xh))))))) (xc (xt1 (xl (xl (xt4 (xt4 (xh)))))) (xn))))) (by decide +kernel)) ggX10_readNote_X10_isAt
set_option maxRecDepth 20000 in
theorem ggX10_readNote_X10_word : GoodIn wsX10_readNote wsX10_word := goodIn_sub (xc (xt1 (xl (xl (xt16 (xh))))) (xn)) (by decide +kernel)
set_option maxRecDepth 20000 in
theorem gX10_readNote_X10_word : GoodIn wsX10_readNote (va_wsS RX10 193 yX10_word wsX10_word) := goodIn_app (goodIn_sub (xc (xt1 (xl (xl (xt4 (xt4 (xt4 (xt1 (xt1 (xh))))))))) (xc (xt1 (xl (xl (xt4 (xt4 (xt4 (xt1 (xt1 (xt1 (xh)))))))))) (xc (xt1 (xl (xl (xt4 (xt4 (xh)))))) (xn)))) (by decide +kernel)) ggX10_readNote_X10_word
set_option maxRecDepth 20000 in
theorem ggX10_readNote_X10_isWord : GoodIn wsX10_readNote wsX10_isWord := goodIn_sub (xc (xt1 (xl (xl (xt16 (xt4 (xh)))))) (xa (xa (xc (xt1 (xl (xl (xh)))) (xc (xt1 (xl (xl (xt1 (xh))))) (xc (xt1 (xl (xl (xt1 (xt1 (xh)))))) (xc (xt1 (xl (xl (xt16 (xt4 (xt1 (xh))))))) (xc (xt1 (xl (xl (xt16 (xt4 (xt1 (xt1 (xh)))))))) (xc (xt1 (xl (xl (xt16 (xt4 (xt1 (xt1 (xt1 (xh))))))))) (xc (xt1 (xl (xr (xl (xh))))) (xc (xt1 (xl (xr (xl (xt1 (xh)))))) (xc (xt1 (xl (xr (xl (xt1 (xt1 (xh))))))) (xc (xt1 (xl (xr (xl (xt1 (xt1 (xt1 (xh)))))))) (xc (xt1 (xl (xr (xl (xt4 (xh)))))) (xc (xt1 (xl (xr (xl (xt4 (xt1 (xh))))))) (xc (xt1 (xl (xr (xl (xt4 (xt1 (xt1 (xh)))))))) (xc (xt1 (xl (xr (xl (xt4 (xt1 (xt1 (xt1 (xh))))))))) (xc (xt1 (xl (xr (xl (xt4 (xt4 (xh))))))) (xc (xt1 (xl (xr (xl (xt4 (xt4 (xt1 (xh)))))))) (xc (xt1 (xl (xr (xl (xt4 (xt4 (xt1 (xt1 (xh))))))))) (xc (xt1 (xl (xr (xl (xt4 (xt4 (xt1 (xt1 (xt1 (xh)))))))))) (xc (xt1 (xl (xr (xl (xt4 (xt4 (xt4 (xh)))))))) (xc (xt1 (xl (xr (xl (xt4 (xt4 (xt4 (xt1 (xh))))))))) (xc (xt1 (xl (xr (xl (xt4 (xt4 (xt4 (xt1 (xt1 (xh)))))))))) (xc (xt1 (xl (xr (xl (xt4 (xt4 (xt4 (xt1 (xt1 (xt1 (xh))))))))))) (xc (xt1 (xl (xr (xl (xt16 (xh)))))) (xc (xt1 (xl (xr (xl (xt16 (xt1 (xh))))))) (xn))))))))))))))))))))))))) (xa (xc (xt1 (xl (xr (xl (xt16 (xt1 (xt1 (xh)))))))) (xc (xt1 (xl (xr (xl (xt16 (xt1 (xt1 (xt1 (xh))))))))) (xc (xt1 (xl (xr (xl (xt16 (xt4 (xh))))))) (xc (xt1 (xl (xr (xl (xt16 (xt4 (xt1 (xh)))))))) (xc (xt1 (xl (xr (xl (xt16 (xt4 (xt1 (xt1 (xh))))))))) (xc (xt1 (xl (xr (xl (xt16 (xt4 (xt1 (xt1 (xt1 (xh)))))))))) (xc (xt1 (xl (xr (xr (xh))))) (xc (xt1 (xl (xr (xr (xt1 (xh)))))) (xc (xt1 (xl (xr (xr (xt1 (xt1 (xh))))))) (xc (xt1 (xl (xr (xr (xt1 (xt1 (xt1 (xh)))))))) (xc (xt1 (xl (xr (xr (xt4 (xh)))))) (xc (xt1 (xl (xr (xr (xt4 (xt1 (xh))))))) (xc (xt1 (xl (xr (xr (xt4 (xt1 (xt1 (xh)))))))) (xc (xt1 (xl (xr (xr (xt4 (xt1 (xt1 (xt1 (xh))))))))) (xc (xt1 (xl (xr (xr (xt4 (xt4 (xh))))))) (xc (xt1 (xl (xr (xr (xt4 (xt4 (xt1 (xh)))))))) (xc (xt1 (xl (xr (xr (xt4 (xt4 (xt1 (xt1 (xh))))))))) (xc (xt1 (xl (xr (xr (xt4 (xt4 (xt1 (xt1 (xt1 (xh)))))))))) (xc (xt1 (xl (xr (xr (xt4 (xt4 (xt4 (xh)))))))) (xc (xt1 (xl (xr (xr (xt4 (xt4 (xt4 (xt1 (xh))))))))) (xc (xt1 (xl (xr (xr (xt4 (xt4 (xt4 (xt1 (xt1 (xh)))))))))) (xc (xt1 (xl (xr (xr (xt4 (xt4 (xt4 (xt1 (xt1 (xt1 (xh))))))))))) (xc (xt1 (xl (xr (xr (xt16 (xh)))))) (xc (xt1 (xl (xr (xr (xt16 (xt1 (xh))))))) (xn))))))))))))))))))))))))) (xc (xt1 (xl (xr (xr (xt16 (xt1 (xt1 (xh)))))))) (xc (xt1 (xl (xr (xr (xt16 (xt1 (xt1 (xt1 (xh))))))))) (xc (xt1 (xl (xr (xr (xt16 (xt4 (xh))))))) (xc (xt1 (xl (xr (xr (xt16 (xt4 (xt1 (xh)))))))) (xn))))))) (fun _ h => xt1 (xr (h))))) (by decide +kernel)
set_option maxRecDepth 20000 in
theorem gX10_readNote_X10_isWord : GoodIn wsX10_readNote (wsV RX10 197 RX10 yX10_isWord wsX10_isWord) := goodIn_app (goodIn_sub (xc (xt1 (xl (xl (xt16 (xt1 (xh)))))) (xc (xt1 (xl (xl (xt16 (xt1 (xt1 (xh))))))) (xc (xt1 (xl (xl (xt16 (xt1 (xt1 (xt1 (xh)))))))) (xc (xt1 (xl (xl (xt4 (xt4 (xh)))))) (xn))))) (by decide +kernel)) ggX10_readNote_X10_isWord
theorem dX10_readNote_0 : decode cX10_readNote 0 = .ok (.aload_n 0, 1) := by decide +kernel
theorem dX10_readNote_1 : decode cX10_readNote 1 = .ok (.iconst 0, 1) := by decide +kernel
theorem dX10_readNote_2 : decode cX10_readNote 2 = .ok (.putfield 161, 3) := by decide +kernel
theorem dX10_readNote_5 : decode cX10_readNote 5 = .ok (.iconst 0, 1) := by decide +kernel
theorem dX10_readNote_6 : decode cX10_readNote 6 = .ok (.istore_n 1, 1) := by decide +kernel
theorem dX10_readNote_7 : decode cX10_readNote 7 = .ok (.iload_n 1, 1) := by decide +kernel
theorem dX10_readNote_8 : decode cX10_readNote 8 = .ok (.iconst 5, 1) := by decide +kernel
theorem dX10_readNote_9 : decode cX10_readNote 9 = .ok (.if_icmp .ge 148, 3) := by decide +kernel
theorem dX10_readNote_12 : decode cX10_readNote 12 = .ok (.aload_n 0, 1) := by decide +kernel
theorem dX10_readNote_13 : decode cX10_readNote 13 = .ok (.invokevirtual 190, 3) := by decide +kernel
theorem dX10_readNote_16 : decode cX10_readNote 16 = .ok (.aload_n 0, 1) := by decide +kernel
theorem dX10_readNote_17 : decode cX10_readNote 17 = .ok (.bipush 97, 2) := by decide +kernel
theorem dX10_readNote_19 : decode cX10_readNote 19 = .ok (.bipush 122, 2) := by decide +kernel
theorem dX10_readNote_21 : decode cX10_readNote 21 = .ok (.invokevirtual 167, 3) := by decide +kernel
theorem dX10_readNote_24 : decode cX10_readNote 24 = .ok (.ifCond .eq 16, 3) := by decide +kernel
theorem dX10_readNote_27 : decode cX10_readNote 27 = .ok (.aload_n 0, 1) := by decide +kernel
theorem dX10_readNote_28 : decode cX10_readNote 28 = .ok (.dup, 1) := by decide +kernel
theorem dX10_readNote_29 : decode cX10_readNote 29 = .ok (.getfield 161, 3) := by decide +kernel
theorem dX10_readNote_32 : decode cX10_readNote 32 = .ok (.iconst 1, 1) := by decide +kernel
theorem dX10_readNote_33 : decode cX10_readNote 33 = .ok (.iadd, 1) := by decide +kernel
theorem dX10_readNote_34 : decode cX10_readNote 34 = .ok (.putfield 161, 3) := by decide +kernel
theorem dX10_readNote_37 : decode cX10_readNote 37 = .ok (.goto (-21), 3) := by decide +kernel
theorem dX10_readNote_40 : decode cX10_readNote 40 = .ok (.aload_n 0, 1) := by decide +kernel
theorem dX10_readNote_41 : decode cX10_readNote 41 = .ok (.iload_n 1, 1) := by decide +kernel
theorem dX10_readNote_42 : decode cX10_readNote 42 = .ok (.invokestatic 193, 3) := by decide +kernel
theorem dX10_readNote_45 : decode cX10_readNote 45 = .ok (.invokevirtual 197, 3) := by decide +kernel
theorem dX10_readNote_48 : decode cX10_readNote 48 = .ok (.ifCond .ne 5, 3) := by decide +kernel
theorem dX10_readNote_51 : decode cX10_readNote 51 = .ok (.iconst 0, 1) := by decide +kernel
theorem dX10_readNote_52 : decode cX10_readNote 52 = .ok (.ireturn, 1) := by decide +kernel
theorem dX10_readNote_53 : decode cX10_readNote 53 = .ok (.aload_n 0, 1) := by decide +kernel
theorem dX10_readNote_54 : decode cX10_readNote 54 = .ok (.invokevirtual 190, 3) := by decide +kernel
theorem dX10_readNote_57 : decode cX10_readNote 57 = .ok (.iconst 0, 1) := by decide +kernel
theorem dX10_readNote_58 : decode cX10_readNote 58 = .ok (.istore_n 2, 1) := by decide +kernel
theorem dX10_readNote_59 : decode cX10_readNote 59 = .ok (.aload_n 0, 1) := by decide +kernel
theorem dX10_readNote_60 : decode cX10_readNote 60 = .ok (.bipush 48, 2) := by decide +kernel
theorem dX10_readNote_62 : decode cX10_readNote 62 = .ok (.bipush 57, 2) := by decide +kernel
theorem dX10_readNote_64 : decode cX10_readNote 64 = .ok (.invokevirtual 167, 3) := by decide +kernel
theorem dX10_readNote_67 : decode cX10_readNote 67 = .ok (.ifCond .eq 51, 3) := by decide +kernel
theorem dX10_readNote_70 : decode cX10_readNote 70 = .ok (.aload_n 0, 1) := by decide +kernel
theorem dX10_readNote_71 : decode cX10_readNote 71 = .ok (.getfield 161, 3) := by decide +kernel
theorem dX10_readNote_74 : decode cX10_readNote 74 = .ok (.aload_n 0, 1) := by decide +kernel
theorem dX10_readNote_75 : decode cX10_readNote 75 = .ok (.getfield 170, 3) := by decide +kernel
theorem dX10_readNote_78 : decode cX10_readNote 78 = .ok (.isub, 1) := by decide +kernel
theorem dX10_readNote_79 : decode cX10_readNote 79 = .ok (.iconst 5, 1) := by decide +kernel
theorem dX10_readNote_80 : decode cX10_readNote 80 = .ok (.if_icmp .ge 23, 3) := by decide +kernel
theorem dX10_readNote_83 : decode cX10_readNote 83 = .ok (.bipush 10, 2) := by decide +kernel
theorem dX10_readNote_85 : decode cX10_readNote 85 = .ok (.iload_n 2, 1) := by decide +kernel
theorem dX10_readNote_86 : decode cX10_readNote 86 = .ok (.imul, 1) := by decide +kernel
theorem dX10_readNote_87 : decode cX10_readNote 87 = .ok (.aload_n 0, 1) := by decide +kernel
theorem dX10_readNote_88 : decode cX10_readNote 88 = .ok (.getfield 62, 3) := by decide +kernel
theorem dX10_readNote_91 : decode cX10_readNote 91 = .ok (.aload_n 0, 1) := by decide +kernel
theorem dX10_readNote_92 : decode cX10_readNote 92 = .ok (.getfield 161, 3) := by decide +kernel
theorem dX10_readNote_95 : decode cX10_readNote 95 = .ok (.baload, 1) := by decide +kernel
theorem dX10_readNote_96 : decode cX10_readNote 96 = .ok (.iadd, 1) := by decide +kernel
theorem dX10_readNote_97 : decode cX10_readNote 97 = .ok (.bipush 48, 2) := by decide +kernel
theorem dX10_readNote_99 : decode cX10_readNote 99 = .ok (.isub, 1) := by decide +kernel
theorem dX10_readNote_100 : decode cX10_readNote 100 = .ok (.goto 4, 3) := by decide +kernel
theorem dX10_readNote_103 : decode cX10_readNote 103 = .ok (.iload_n 2, 1) := by decide +kernel
theorem dX10_readNote_104 : decode cX10_readNote 104 = .ok (.istore_n 2, 1) := by decide +kernel
theorem dX10_readNote_105 : decode cX10_readNote 105 = .ok (.aload_n 0, 1) := by decide +kernel
theorem dX10_readNote_106 : decode cX10_readNote 106 = .ok (.dup, 1) := by decide +kernel
theorem dX10_readNote_107 : decode cX10_readNote 107 = .ok (.getfield 161, 3) := by decide +kernel
theorem dX10_readNote_110 : decode cX10_readNote 110 = .ok (.iconst 1, 1) := by decide +kernel
theorem dX10_readNote_111 : decode cX10_readNote 111 = .ok (.iadd, 1) := by decide +kernel
theorem dX10_readNote_112 : decode cX10_readNote 112 = .ok (.putfield 161, 3) := by decide +kernel
theorem dX10_readNote_115 : decode cX10_readNote 115 = .ok (.goto (-56), 3) := by decide +kernel
theorem dX10_readNote_118 : decode cX10_readNote 118 = .ok (.aload_n 0, 1) := by decide +kernel
theorem dX10_readNote_119 : decode cX10_readNote 119 = .ok (.getfield 161, 3) := by decide +kernel
theorem dX10_readNote_122 : decode cX10_readNote 122 = .ok (.aload_n 0, 1) := by decide +kernel
theorem dX10_readNote_123 : decode cX10_readNote 123 = .ok (.getfield 170, 3) := by decide +kernel
theorem dX10_readNote_126 : decode cX10_readNote 126 = .ok (.if_icmp .eq 16, 3) := by decide +kernel
theorem dX10_readNote_129 : decode cX10_readNote 129 = .ok (.aload_n 0, 1) := by decide +kernel
theorem dX10_readNote_130 : decode cX10_readNote 130 = .ok (.getfield 161, 3) := by decide +kernel
theorem dX10_readNote_133 : decode cX10_readNote 133 = .ok (.aload_n 0, 1) := by decide +kernel
theorem dX10_readNote_134 : decode cX10_readNote 134 = .ok (.getfield 170, 3) := by decide +kernel
theorem dX10_readNote_137 : decode cX10_readNote 137 = .ok (.isub, 1) := by decide +kernel
theorem dX10_readNote_138 : decode cX10_readNote 138 = .ok (.iconst 5, 1) := by decide +kernel
theorem dX10_readNote_139 : decode cX10_readNote 139 = .ok (.if_icmp .le 5, 3) := by decide +kernel
theorem dX10_readNote_142 : decode cX10_readNote 142 = .ok (.iconst 0, 1) := by decide +kernel
theorem dX10_readNote_143 : decode cX10_readNote 143 = .ok (.ireturn, 1) := by decide +kernel
theorem dX10_readNote_144 : decode cX10_readNote 144 = .ok (.aload_n 0, 1) := by decide +kernel
theorem dX10_readNote_145 : decode cX10_readNote 145 = .ok (.getfield 73, 3) := by decide +kernel
theorem dX10_readNote_148 : decode cX10_readNote 148 = .ok (.iload_n 1, 1) := by decide +kernel
theorem dX10_readNote_149 : decode cX10_readNote 149 = .ok (.iload_n 2, 1) := by decide +kernel
theorem dX10_readNote_150 : decode cX10_readNote 150 = .ok (.iastore, 1) := by decide +kernel
theorem dX10_readNote_151 : decode cX10_readNote 151 = .ok (.iinc 1 1, 3) := by decide +kernel
theorem dX10_readNote_154 : decode cX10_readNote 154 = .ok (.goto (-147), 3) := by decide +kernel
theorem dX10_readNote_157 : decode cX10_readNote 157 = .ok (.aload_n 0, 1) := by decide +kernel
theorem dX10_readNote_158 : decode cX10_readNote 158 = .ok (.invokevirtual 190, 3) := by decide +kernel
theorem dX10_readNote_161 : decode cX10_readNote 161 = .ok (.aload_n 0, 1) := by decide +kernel
theorem dX10_readNote_162 : decode cX10_readNote 162 = .ok (.getfield 161, 3) := by decide +kernel
theorem dX10_readNote_165 : decode cX10_readNote 165 = .ok (.aload_n 0, 1) := by decide +kernel
theorem dX10_readNote_166 : decode cX10_readNote 166 = .ok (.getfield 164, 3) := by decide +kernel
theorem dX10_readNote_169 : decode cX10_readNote 169 = .ok (.if_icmp .ne 7, 3) := by decide +kernel
theorem dX10_readNote_172 : decode cX10_readNote 172 = .ok (.iconst 1, 1) := by decide +kernel
theorem dX10_readNote_173 : decode cX10_readNote 173 = .ok (.goto 4, 3) := by decide +kernel
theorem dX10_readNote_176 : decode cX10_readNote 176 = .ok (.iconst 0, 1) := by decide +kernel
theorem dX10_readNote_177 : decode cX10_readNote 177 = .ok (.ireturn, 1) := by decide +kernel
set_option maxRecDepth 20000 in
theorem ggX10_isFalse_X10_noJar : GoodIn wsX10_isFalse wsX10_noJar := goodIn_sub (xc (xt1 (xl (xt4 (xt4 (xt1 (xt1 (xh))))))) (xa (xc (xt1 (xl (xt4 (xt4 (xt1 (xt1 (xt1 (xh)))))))) (xc (xt1 (xl (xt4 (xt4 (xt4 (xh)))))) (xc (xt1 (xl (xt4 (xt4 (xt4 (xt1 (xh))))))) (xc (xt1 (xl (xt4 (xt4 (xt1 (xh)))))) (xc (xt1 (xl (xt4 (xt4 (xt4 (xt1 (xt1 (xh)))))))) (xn)))))) (fun _ h => xt1 (xr (h))))) (by decide +kernel)
set_option maxRecDepth 20000 in
theorem gX10_isFalse_X10_noJar : GoodIn wsX10_isFalse (wsV RX10 129 RX10 yX10_noJar wsX10_noJar) := goodIn_app (goodIn_sub (xc (xt1 (xl (xt4 (xt1 (xt1 (xh)))))) (xc (xt1 (xl (xt4 (xt1 (xt1 (xt1 (xh))))))) (xc (xt1 (xl (xt4 (xt4 (xh))))) (xc (xt1 (xl (xt4 (xt4 (xt1 (xh)))))) (xn))))) (by decide +kernel)) ggX10_isFalse_X10_noJar
theorem dX10_isFalse_0 : decode cX10_isFalse 0 = .ok (.aload_n 0, 1) := by decide +kernel
theorem dX10_isFalse_1 : decode cX10_isFalse 1 = .ok (.getfield 73, 3) := by decide +kernel
theorem dX10_isFalse_4 : decode cX10_isFalse 4 = .ok (.iconst 0, 1) := by decide +kernel
theorem dX10_isFalse_5 : decode cX10_isFalse 5 = .ok (.iaload, 1) := by decide +kernel
theorem dX10_isFalse_6 : decode cX10_isFalse 6 = .ok (.istore_n 2, 1) := by decide +kernel
theorem dX10_isFalse_7 : decode cX10_isFalse 7 = .ok (.aload_n 0, 1) := by decide +kernel
theorem dX10_isFalse_8 : decode cX10_isFalse 8 = .ok (.iload_n 2, 1) := by decide +kernel
theorem dX10_isFalse_9 : decode cX10_isFalse 9 = .ok (.invokevirtual 129, 3) := by decide +kernel
theorem dX10_isFalse_12 : decode cX10_isFalse 12 = .ok (.ifCond .ne 13, 3) := by decide +kernel
theorem dX10_isFalse_15 : decode cX10_isFalse 15 = .ok (.aload_n 0, 1) := by decide +kernel
theorem dX10_isFalse_16 : decode cX10_isFalse 16 = .ok (.getfield 31, 3) := by decide +kernel
theorem dX10_isFalse_19 : decode cX10_isFalse 19 = .ok (.iload_n 2, 1) := by decide +kernel
theorem dX10_isFalse_20 : decode cX10_isFalse 20 = .ok (.iaload, 1) := by decide +kernel
theorem dX10_isFalse_21 : decode cX10_isFalse 21 = .ok (.iconst 1, 1) := by decide +kernel
theorem dX10_isFalse_22 : decode cX10_isFalse 22 = .ok (.if_icmp .eq 5, 3) := by decide +kernel
theorem dX10_isFalse_25 : decode cX10_isFalse 25 = .ok (.iconst 1, 1) := by decide +kernel
theorem dX10_isFalse_26 : decode cX10_isFalse 26 = .ok (.ireturn, 1) := by decide +kernel
theorem dX10_isFalse_27 : decode cX10_isFalse 27 = .ok (.aload_n 0, 1) := by decide +kernel
theorem dX10_isFalse_28 : decode cX10_isFalse 28 = .ok (.getfield 73, 3) := by decide +kernel
theorem dX10_isFalse_31 : decode cX10_isFalse 31 = .ok (.iconst 1, 1) := by decide +kernel
theorem dX10_isFalse_32 : decode cX10_isFalse 32 = .ok (.iaload, 1) := by decide +kernel
theorem dX10_isFalse_33 : decode cX10_isFalse 33 = .ok (.aload_n 0, 1) := by decide +kernel
theorem dX10_isFalse_34 : decode cX10_isFalse 34 = .ok (.getfield 28, 3) := by decide +kernel
theorem dX10_isFalse_37 : decode cX10_isFalse 37 = .ok (.iload_n 2, 1) := by decide +kernel
theorem dX10_isFalse_38 : decode cX10_isFalse 38 = .ok (.iaload, 1) := by decide +kernel
theorem dX10_isFalse_39 : decode cX10_isFalse 39 = .ok (.if_icmp .eq 5, 3) := by decide +kernel
theorem dX10_isFalse_42 : decode cX10_isFalse 42 = .ok (.iconst 2, 1) := by decide +kernel
theorem dX10_isFalse_43 : decode cX10_isFalse 43 = .ok (.ireturn, 1) := by decide +kernel
theorem dX10_isFalse_44 : decode cX10_isFalse 44 = .ok (.aload_n 0, 1) := by decide +kernel
theorem dX10_isFalse_45 : decode cX10_isFalse 45 = .ok (.getfield 73, 3) := by decide +kernel
theorem dX10_isFalse_48 : decode cX10_isFalse 48 = .ok (.iconst 2, 1) := by decide +kernel
theorem dX10_isFalse_49 : decode cX10_isFalse 49 = .ok (.iaload, 1) := by decide +kernel
theorem dX10_isFalse_50 : decode cX10_isFalse 50 = .ok (.aload_n 0, 1) := by decide +kernel
theorem dX10_isFalse_51 : decode cX10_isFalse 51 = .ok (.getfield 22, 3) := by decide +kernel
theorem dX10_isFalse_54 : decode cX10_isFalse 54 = .ok (.iload_n 2, 1) := by decide +kernel
theorem dX10_isFalse_55 : decode cX10_isFalse 55 = .ok (.iaload, 1) := by decide +kernel
theorem dX10_isFalse_56 : decode cX10_isFalse 56 = .ok (.if_icmp .eq 5, 3) := by decide +kernel
theorem dX10_isFalse_59 : decode cX10_isFalse 59 = .ok (.iconst 3, 1) := by decide +kernel
theorem dX10_isFalse_60 : decode cX10_isFalse 60 = .ok (.ireturn, 1) := by decide +kernel
theorem dX10_isFalse_61 : decode cX10_isFalse 61 = .ok (.aload_n 0, 1) := by decide +kernel
theorem dX10_isFalse_62 : decode cX10_isFalse 62 = .ok (.getfield 73, 3) := by decide +kernel
theorem dX10_isFalse_65 : decode cX10_isFalse 65 = .ok (.iconst 3, 1) := by decide +kernel
theorem dX10_isFalse_66 : decode cX10_isFalse 66 = .ok (.iaload, 1) := by decide +kernel
theorem dX10_isFalse_67 : decode cX10_isFalse 67 = .ok (.aload_n 0, 1) := by decide +kernel
theorem dX10_isFalse_68 : decode cX10_isFalse 68 = .ok (.getfield 25, 3) := by decide +kernel
theorem dX10_isFalse_71 : decode cX10_isFalse 71 = .ok (.iload_n 2, 1) := by decide +kernel
theorem dX10_isFalse_72 : decode cX10_isFalse 72 = .ok (.iaload, 1) := by decide +kernel
theorem dX10_isFalse_73 : decode cX10_isFalse 73 = .ok (.if_icmp .eq 5, 3) := by decide +kernel
theorem dX10_isFalse_76 : decode cX10_isFalse 76 = .ok (.iconst 4, 1) := by decide +kernel
theorem dX10_isFalse_77 : decode cX10_isFalse 77 = .ok (.ireturn, 1) := by decide +kernel
theorem dX10_isFalse_78 : decode cX10_isFalse 78 = .ok (.aload_n 0, 1) := by decide +kernel
theorem dX10_isFalse_79 : decode cX10_isFalse 79 = .ok (.getfield 73, 3) := by decide +kernel
theorem dX10_isFalse_82 : decode cX10_isFalse 82 = .ok (.iconst 4, 1) := by decide +kernel
theorem dX10_isFalse_83 : decode cX10_isFalse 83 = .ok (.iaload, 1) := by decide +kernel
theorem dX10_isFalse_84 : decode cX10_isFalse 84 = .ok (.aload_n 0, 1) := by decide +kernel
theorem dX10_isFalse_85 : decode cX10_isFalse 85 = .ok (.getfield 28, 3) := by decide +kernel
theorem dX10_isFalse_88 : decode cX10_isFalse 88 = .ok (.iload_n 2, 1) := by decide +kernel
theorem dX10_isFalse_89 : decode cX10_isFalse 89 = .ok (.iaload, 1) := by decide +kernel
theorem dX10_isFalse_90 : decode cX10_isFalse 90 = .ok (.aload_n 0, 1) := by decide +kernel
theorem dX10_isFalse_91 : decode cX10_isFalse 91 = .ok (.getfield 53, 3) := by decide +kernel
theorem dX10_isFalse_94 : decode cX10_isFalse 94 = .ok (.iload_n 1, 1) := by decide +kernel
theorem dX10_isFalse_95 : decode cX10_isFalse 95 = .ok (.iaload, 1) := by decide +kernel
theorem dX10_isFalse_96 : decode cX10_isFalse 96 = .ok (.imul, 1) := by decide +kernel
theorem dX10_isFalse_97 : decode cX10_isFalse 97 = .ok (.bipush 9, 2) := by decide +kernel
theorem dX10_isFalse_99 : decode cX10_isFalse 99 = .ok (.iadd, 1) := by decide +kernel
theorem dX10_isFalse_100 : decode cX10_isFalse 100 = .ok (.bipush 10, 2) := by decide +kernel
theorem dX10_isFalse_102 : decode cX10_isFalse 102 = .ok (.idiv, 1) := by decide +kernel
theorem dX10_isFalse_103 : decode cX10_isFalse 103 = .ok (.if_icmp .eq 7, 3) := by decide +kernel
theorem dX10_isFalse_106 : decode cX10_isFalse 106 = .ok (.iconst 5, 1) := by decide +kernel
theorem dX10_isFalse_107 : decode cX10_isFalse 107 = .ok (.goto 4, 3) := by decide +kernel
theorem dX10_isFalse_110 : decode cX10_isFalse 110 = .ok (.iconst 0, 1) := by decide +kernel
theorem dX10_isFalse_111 : decode cX10_isFalse 111 = .ok (.ireturn, 1) := by decide +kernel
set_option maxRecDepth 20000 in
theorem ggX10_check_X10_in : GoodIn wsX10_check wsX10_in := goodIn_sub (xc (xt1 (xl (xl (xt4 (xt4 (xt1 (xt1 (xh)))))))) (xn)) (by decide +kernel)
set_option maxRecDepth 20000 in
theorem gX10_check_X10_in : GoodIn wsX10_check (va_wsS RX10 115 yX10_in wsX10_in) := goodIn_app (goodIn_sub (xc (xt1 (xl (xl (xt4 (xt1 (xt1 (xt1 (xh)))))))) (xc (xt1 (xl (xl (xt4 (xt4 (xh)))))) (xc (xt1 (xl (xl (xt4 (xt4 (xt1 (xh))))))) (xn)))) (by decide +kernel)) ggX10_check_X10_in
set_option maxRecDepth 20000 in
theorem ggX10_check_X10_throwsIf : GoodIn wsX10_check wsX10_throwsIf := goodIn_sub (xc (xt1 (xl (xl (xt4 (xt4 (xt4 (xt1 (xt1 (xh))))))))) (xa (xc (xt1 (xl (xl (xh)))) (xn)) (fun _ h => xt1 (xr (h))))) (by decide +kernel)
set_option maxRecDepth 20000 in
theorem gX10_check_X10_throwsIf : GoodIn wsX10_check (wsV RX10 122 RX10 yX10_throwsIf wsX10_throwsIf) := goodIn_app (goodIn_sub (xc (xt1 (xl (xl (xt4 (xt4 (xt1 (xt1 (xt1 (xh))))))))) (xc (xt1 (xl (xl (xt4 (xt4 (xt4 (xh))))))) (xc (xt1 (xl (xl (xt4 (xt4 (xt4 (xt1 (xh)))))))) (xc (xt1 (xl (xl (xt4 (xt4 (xt1 (xh))))))) (xn))))) (by decide +kernel)) ggX10_check_X10_throwsIf
set_option maxRecDepth 20000 in
theorem ggX10_check_X10_readNote : GoodIn wsX10_check wsX10_readNote := goodIn_sub (xc (xt1 (xl (xl (xt16 (xt1 (xt1 (xh))))))) (xa (xa (xc (xt1 (xl (xl (xt16 (xt1 (xt1 (xt1 (xh)))))))) (xc (xt1 (xl (xl (xt1 (xt1 (xt1 (xh))))))) (xc (xt1 (xl (xl (xt16 (xt4 (xh)))))) (xc (xt1 (xl (xl (xt16 (xt4 (xt1 (xh))))))) (xc (xt1 (xl (xl (xt1 (xt1 (xh)))))) (xc (xt1 (xl (xl (xt16 (xt4 (xt1 (xt1 (xh)))))))) (xc (xt1 (xl (xl (xt16 (xt4 (xt1 (xt1 (xt1 (xh))))))))) (xc (xt1 (xl (xr (xl (xh))))) (xc (xt1 (xl (xl (xt4 (xt4 (xt1 (xh))))))) (xc (xt1 (xl (xr (xl (xt1 (xh)))))) (xc (xt1 (xl (xr (xl (xt1 (xt1 (xh))))))) (xc (xt1 (xl (xr (xl (xt1 (xt1 (xt1 (xh)))))))) (xc (xt1 (xl (xr (xl (xt4 (xh)))))) (xc (xt1 (xl (xr (xl (xt4 (xt1 (xh))))))) (xc (xt1 (xl (xr (xl (xt4 (xt1 (xt1 (xh)))))))) (xc (xt1 (xl (xr (xl (xt4 (xt1 (xt1 (xt1 (xh))))))))) (xc (xt1 (xl (xr (xl (xt4 (xt4 (xh))))))) (xc (xt1 (xl (xr (xl (xt4 (xt4 (xt1 (xh)))))))) (xc (xt1 (xl (xr (xl (xt4 (xt4 (xt1 (xt1 (xh))))))))) (xc (xt1 (xl (xr (xl (xt4 (xt4 (xt1 (xt1 (xt1 (xh)))))))))) (xc (xt1 (xl (xr (xl (xt4 (xt4 (xt4 (xh)))))))) (xc (xt1 (xl (xr (xl (xt4 (xt4 (xt4 (xt1 (xh))))))))) (xc (xt1 (xl (xr (xl (xt4 (xt4 (xt4 (xt1 (xt1 (xh)))))))))) (xc (xt1 (xl (xr (xl (xt4 (xt4 (xt4 (xt1 (xt1 (xt1 (xh))))))))))) (xn))))))))))))))))))))))))) (xa (xc (xt1 (xl (xr (xl (xt16 (xh)))))) (xc (xt1 (xl (xr (xl (xt16 (xt1 (xh))))))) (xc (xt1 (xl (xr (xl (xt16 (xt1 (xt1 (xh)))))))) (xc (xt1 (xl (xr (xl (xt16 (xt1 (xt1 (xt1 (xh))))))))) (xc (xt1 (xl (xr (xl (xt16 (xt4 (xh))))))) (xc (xt1 (xl (xr (xl (xt16 (xt4 (xt1 (xh)))))))) (xc (xt1 (xl (xr (xl (xt16 (xt4 (xt1 (xt1 (xh))))))))) (xc (xt1 (xl (xr (xl (xt16 (xt4 (xt1 (xt1 (xt1 (xh)))))))))) (xc (xt1 (xl (xr (xr (xl (xh)))))) (xc (xt1 (xl (xr (xr (xl (xt1 (xh))))))) (xc (xt1 (xl (xr (xr (xl (xt1 (xt1 (xh)))))))) (xc (xt1 (xl (xr (xr (xl (xt1 (xt1 (xt1 (xh))))))))) (xc (xt1 (xl (xr (xr (xl (xt4 (xh))))))) (xc (xt1 (xl (xr (xr (xl (xt4 (xt1 (xh)))))))) (xc (xt1 (xl (xr (xr (xl (xt4 (xt1 (xt1 (xh))))))))) (xc (xt1 (xl (xr (xr (xl (xt4 (xt1 (xt1 (xt1 (xh)))))))))) (xc (xt1 (xl (xr (xr (xl (xt4 (xt4 (xh)))))))) (xc (xt1 (xl (xr (xr (xl (xt4 (xt4 (xt1 (xh))))))))) (xc (xt1 (xl (xr (xr (xl (xt4 (xt4 (xt1 (xt1 (xh)))))))))) (xc (xt1 (xl (xr (xr (xl (xt4 (xt4 (xt1 (xt1 (xt1 (xh))))))))))) (xc (xt1 (xl (xr (xr (xl (xt4 (xt4 (xt4 (xh))))))))) (xc (xt1 (xl (xr (xr (xl (xt4 (xt4 (xt4 (xt1 (xh)))))))))) (xc (xt1 (xl (xr (xr (xl (xt4 (xt4 (xt4 (xt1 (xt1 (xh))))))))))) (xc (xt1 (xl (xr (xr (xl (xt4 (xt4 (xt4 (xt1 (xt1 (xt1 (xh)))))))))))) (xn))))))))))))))))))))))))) (xc (xt1 (xl (xr (xr (xl (xt16 (xh))))))) (xc (xt1 (xl (xr (xr (xl (xt16 (xt1 (xh)))))))) (xc (xt1 (xl (xr (xr (xl (xt16 (xt1 (xt1 (xh))))))))) (xc (xt1 (xl (xr (xr (xl (xt16 (xt1 (xt1 (xt1 (xh)))))))))) (xc (xt1 (xl (xr (xr (xl (xt16 (xt4 (xh)))))))) (xc (xt1 (xl (xr (xr (xl (xt16 (xt4 (xt1 (xh))))))))) (xc (xt1 (xl (xr (xr (xl (xt16 (xt4 (xt1 (xt1 (xh)))))))))) (xc (xt1 (xl (xr (xr (xl (xt16 (xt4 (xt1 (xt1 (xt1 (xh))))))))))) (xc (xt1 (xl (xr (xr (xr (xl (xh))))))) (xc (xt1 (xl (xr (xr (xr (xl (xt1 (xh)))))))) (xc (xt1 (xl (xr (xr (xr (xl (xt1 (xt1 (xh))))))))) (xc (xt1 (xl (xr (xr (xr (xl (xt1 (xt1 (xt1 (xh)))))))))) (xc (xt1 (xl (xr (xr (xr (xl (xt4 (xh)))))))) (xc (xt1 (xl (xr (xr (xr (xl (xt4 (xt1 (xh))))))))) (xc (xt1 (xl (xr (xr (xr (xl (xt4 (xt1 (xt1 (xh)))))))))) (xc (xt1 (xl (xr (xr (xr (xl (xt4 (xt1 (xt1 (xt1 (xh))))))))))) (xc (xt1 (xl (xr (xr (xr (xl (xt4 (xt4 (xh))))))))) (xc (xt1 (xl (xr (xr (xr (xl (xt4 (xt4 (xt1 (xh)))))))))) (xc (xt1 (xl (xr (xr (xr (xl (xt4 (xt4 (xt1 (xt1 (xh))))))))))) (xc (xt1 (xl (xr (xr (xr (xl (xt4 (xt4 (xt1 (xt1 (xt1 (xh)))))))))))) (xc (xt1 (xl (xr (xr (xr (xl (xt4 (xt4 (xt4 (xh)))))))))) (xc (xt1 (xl (xr (xr (xr (xl (xt4 (xt4 (xt4 (xt1 (xh))))))))))) (xn))))))))))))))))))))))))) (fun _ h => xt1 (xr (h))))) (by decide +kernel)
set_option maxRecDepth 20000 in
theorem gX10_check_X10_readNote : GoodIn wsX10_check (wsV RX10 201 RX10 yX10_readNote wsX10_readNote) := goodIn_app (goodIn_sub (xc (xt1 (xl (xl (xt4 (xt4 (xt4 (xt1 (xt1 (xt1 (xh)))))))))) (xc (xt1 (xl (xl (xt16 (xh))))) (xc (xt1 (xl (xl (xt16 (xt1 (xh)))))) (xc (xt1 (xl (xl (xt4 (xt4 (xt1 (xh))))))) (xn))))) (by decide +kernel)) ggX10_check_X10_readNote
set_option maxRecDepth 20000 in
theorem ggX10_check_X10_isFalse : GoodIn wsX10_check wsX10_isFalse := goodIn_sub (xc (xt1 (xl (xr (xr (xr (xl (xt16 (xt1 (xh))))))))) (xa (xc (xt1 (xl (xl (xt16 (xt4 (xt1 (xh))))))) (xc (xt1 (xl (xr (xr (xr (xl (xt16 (xt1 (xt1 (xh)))))))))) (xc (xt1 (xl (xr (xr (xr (xl (xt16 (xt1 (xt1 (xt1 (xh))))))))))) (xc (xt1 (xl (xr (xr (xr (xl (xt16 (xt4 (xh))))))))) (xc (xt1 (xl (xr (xr (xr (xl (xt16 (xt4 (xt1 (xh)))))))))) (xc (xt1 (xl (xr (xr (xr (xl (xt16 (xt4 (xt1 (xt1 (xh))))))))))) (xc (xt1 (xl (xr (xr (xr (xl (xt16 (xt4 (xt1 (xt1 (xt1 (xh)))))))))))) (xc (xt1 (xl (xr (xr (xr (xr (xh))))))) (xc (xt1 (xl (xr (xr (xr (xr (xt1 (xh)))))))) (xc (xt1 (xl (xl (xt4 (xt4 (xt1 (xh))))))) (xc (xt1 (xl (xr (xr (xr (xr (xt1 (xt1 (xh))))))))) (xc (xt1 (xl (xr (xr (xr (xr (xt1 (xt1 (xt1 (xh)))))))))) (xc (xt1 (xl (xl (xt4 (xt1 (xt1 (xt1 (xh)))))))) (xc (xt1 (xl (xl (xt4 (xt4 (xh)))))) (xc (xt1 (xl (xl (xt4 (xt4 (xt1 (xt1 (xh)))))))) (xn)))))))))))))))) (fun _ h => xt1 (xr (h))))) (by decide +kernel)
set_option maxRecDepth 20000 in
theorem gX10_check_X10_isFalse : GoodIn wsX10_check (wsV RX10 205 RX10 yX10_isFalse wsX10_isFalse) := goodIn_app (goodIn_sub (xc (xt1 (xl (xr (xr (xr (xl (xt4 (xt4 (xt4 (xt1 (xt1 (xh)))))))))))) (xc (xt1 (xl (xr (xr (xr (xl (xt4 (xt4 (xt4 (xt1 (xt1 (xt1 (xh))))))))))))) (xc (xt1 (xl (xr (xr (xr (xl (xt16 (xh)))))))) (xc (xt1 (xl (xl (xt4 (xt4 (xt1 (xh))))))) (xn))))) (by decide +kernel)) ggX10_check_X10_isFalse
theorem dX10_check_0 : decode cX10_check 0 = .ok (.aload_n 0, 1) := by decide +kernel
theorem dX10_check_1 : decode cX10_check 1 = .ok (.iconst 0, 1) := by decide +kernel
theorem dX10_check_2 : decode cX10_check 2 = .ok (.putfield 109, 3) := by decide +kernel
theorem dX10_check_5 : decode cX10_check 5 = .ok (.aload_n 0, 1) := by decide +kernel
theorem dX10_check_6 : decode cX10_check 6 = .ok (.aload_n 0, 1) := by decide +kernel
theorem dX10_check_7 : decode cX10_check 7 = .ok (.getfield 158, 3) := by decide +kernel
theorem dX10_check_10 : decode cX10_check 10 = .ok (.putfield 164, 3) := by decide +kernel
theorem dX10_check_13 : decode cX10_check 13 = .ok (.aload_n 0, 1) := by decide +kernel
theorem dX10_check_14 : decode cX10_check 14 = .ok (.iconst 0, 1) := by decide +kernel
theorem dX10_check_15 : decode cX10_check 15 = .ok (.putfield 158, 3) := by decide +kernel
theorem dX10_check_18 : decode cX10_check 18 = .ok (.aload_n 0, 1) := by decide +kernel
theorem dX10_check_19 : decode cX10_check 19 = .ok (.iload_n 1, 1) := by decide +kernel
theorem dX10_check_20 : decode cX10_check 20 = .ok (.iconst 0, 1) := by decide +kernel
theorem dX10_check_21 : decode cX10_check 21 = .ok (.bipush 7, 2) := by decide +kernel
theorem dX10_check_23 : decode cX10_check 23 = .ok (.invokestatic 115, 3) := by decide +kernel
theorem dX10_check_26 : decode cX10_check 26 = .ok (.ifCond .ne 7, 3) := by decide +kernel
theorem dX10_check_29 : decode cX10_check 29 = .ok (.iconst 1, 1) := by decide +kernel
theorem dX10_check_30 : decode cX10_check 30 = .ok (.goto 4, 3) := by decide +kernel
theorem dX10_check_33 : decode cX10_check 33 = .ok (.iconst 0, 1) := by decide +kernel
theorem dX10_check_34 : decode cX10_check 34 = .ok (.iconst 1, 1) := by decide +kernel
theorem dX10_check_35 : decode cX10_check 35 = .ok (.invokevirtual 122, 3) := by decide +kernel
theorem dX10_check_38 : decode cX10_check 38 = .ok (.ifCond .eq 5, 3) := by decide +kernel
theorem dX10_check_41 : decode cX10_check 41 = .ok (.iconst 0, 1) := by decide +kernel
theorem dX10_check_42 : decode cX10_check 42 = .ok (.ireturn, 1) := by decide +kernel
theorem dX10_check_43 : decode cX10_check 43 = .ok (.aload_n 0, 1) := by decide +kernel
theorem dX10_check_44 : decode cX10_check 44 = .ok (.invokevirtual 201, 3) := by decide +kernel
theorem dX10_check_47 : decode cX10_check 47 = .ok (.istore_n 2, 1) := by decide +kernel
theorem dX10_check_48 : decode cX10_check 48 = .ok (.aload_n 0, 1) := by decide +kernel
theorem dX10_check_49 : decode cX10_check 49 = .ok (.iload_n 2, 1) := by decide +kernel
theorem dX10_check_50 : decode cX10_check 50 = .ok (.ifCond .eq 7, 3) := by decide +kernel
theorem dX10_check_53 : decode cX10_check 53 = .ok (.iconst (-1), 1) := by decide +kernel
theorem dX10_check_54 : decode cX10_check 54 = .ok (.goto 7, 3) := by decide +kernel
theorem dX10_check_57 : decode cX10_check 57 = .ok (.aload_n 0, 1) := by decide +kernel
theorem dX10_check_58 : decode cX10_check 58 = .ok (.getfield 170, 3) := by decide +kernel
theorem dX10_check_61 : decode cX10_check 61 = .ok (.putfield 66, 3) := by decide +kernel
theorem dX10_check_64 : decode cX10_check 64 = .ok (.aload_n 0, 1) := by decide +kernel
theorem dX10_check_65 : decode cX10_check 65 = .ok (.iload_n 2, 1) := by decide +kernel
theorem dX10_check_66 : decode cX10_check 66 = .ok (.ifCond .ne 7, 3) := by decide +kernel
theorem dX10_check_69 : decode cX10_check 69 = .ok (.iconst 1, 1) := by decide +kernel
theorem dX10_check_70 : decode cX10_check 70 = .ok (.goto 4, 3) := by decide +kernel
theorem dX10_check_73 : decode cX10_check 73 = .ok (.iconst 0, 1) := by decide +kernel
theorem dX10_check_74 : decode cX10_check 74 = .ok (.iconst 2, 1) := by decide +kernel
theorem dX10_check_75 : decode cX10_check 75 = .ok (.invokevirtual 122, 3) := by decide +kernel
theorem dX10_check_78 : decode cX10_check 78 = .ok (.ifCond .eq 5, 3) := by decide +kernel
theorem dX10_check_81 : decode cX10_check 81 = .ok (.iconst 0, 1) := by decide +kernel
theorem dX10_check_82 : decode cX10_check 82 = .ok (.ireturn, 1) := by decide +kernel
theorem dX10_check_83 : decode cX10_check 83 = .ok (.aload_n 0, 1) := by decide +kernel
theorem dX10_check_84 : decode cX10_check 84 = .ok (.iload_n 1, 1) := by decide +kernel
theorem dX10_check_85 : decode cX10_check 85 = .ok (.invokevirtual 205, 3) := by decide +kernel
theorem dX10_check_88 : decode cX10_check 88 = .ok (.istore_n 3, 1) := by decide +kernel
theorem dX10_check_89 : decode cX10_check 89 = .ok (.aload_n 0, 1) := by decide +kernel
theorem dX10_check_90 : decode cX10_check 90 = .ok (.getfield 56, 3) := by decide +kernel
theorem dX10_check_93 : decode cX10_check 93 = .ok (.iload_n 1, 1) := by decide +kernel
theorem dX10_check_94 : decode cX10_check 94 = .ok (.dup2, 1) := by decide +kernel
theorem dX10_check_95 : decode cX10_check 95 = .ok (.iaload, 1) := by decide +kernel
theorem dX10_check_96 : decode cX10_check 96 = .ok (.iconst 1, 1) := by decide +kernel
theorem dX10_check_97 : decode cX10_check 97 = .ok (.iadd, 1) := by decide +kernel
theorem dX10_check_98 : decode cX10_check 98 = .ok (.iastore, 1) := by decide +kernel
theorem dX10_check_99 : decode cX10_check 99 = .ok (.aload_n 0, 1) := by decide +kernel
theorem dX10_check_100 : decode cX10_check 100 = .ok (.getfield 59, 3) := by decide +kernel
theorem dX10_check_103 : decode cX10_check 103 = .ok (.iload_n 1, 1) := by decide +kernel
theorem dX10_check_104 : decode cX10_check 104 = .ok (.dup2, 1) := by decide +kernel
theorem dX10_check_105 : decode cX10_check 105 = .ok (.iaload, 1) := by decide +kernel
theorem dX10_check_106 : decode cX10_check 106 = .ok (.iload_n 3, 1) := by decide +kernel
theorem dX10_check_107 : decode cX10_check 107 = .ok (.ifCond .le 7, 3) := by decide +kernel
theorem dX10_check_110 : decode cX10_check 110 = .ok (.iconst 1, 1) := by decide +kernel
theorem dX10_check_111 : decode cX10_check 111 = .ok (.goto 4, 3) := by decide +kernel
theorem dX10_check_114 : decode cX10_check 114 = .ok (.iconst 0, 1) := by decide +kernel
theorem dX10_check_115 : decode cX10_check 115 = .ok (.iadd, 1) := by decide +kernel
theorem dX10_check_116 : decode cX10_check 116 = .ok (.iastore, 1) := by decide +kernel
theorem dX10_check_117 : decode cX10_check 117 = .ok (.iload_n 3, 1) := by decide +kernel
theorem dX10_check_118 : decode cX10_check 118 = .ok (.ireturn, 1) := by decide +kernel
theorem dX10_fault_0 : decode cX10_fault 0 = .ok (.aload_n 0, 1) := by decide +kernel
theorem dX10_fault_1 : decode cX10_fault 1 = .ok (.iconst 0, 1) := by decide +kernel
theorem dX10_fault_2 : decode cX10_fault 2 = .ok (.putfield 109, 3) := by decide +kernel
theorem dX10_fault_5 : decode cX10_fault 5 = .ok (.aload_n 0, 1) := by decide +kernel
theorem dX10_fault_6 : decode cX10_fault 6 = .ok (.getfield 66, 3) := by decide +kernel
theorem dX10_fault_9 : decode cX10_fault 9 = .ok (.ireturn, 1) := by decide +kernel
set_option maxRecDepth 20000 in
theorem ggX10_notes_X10_in : GoodIn wsX10_notes wsX10_in := goodIn_sub (xc (xt1 (xl (xt4 (xt1 (xt1 (xh)))))) (xn)) (by decide +kernel)
set_option maxRecDepth 20000 in
theorem gX10_notes_X10_in : GoodIn wsX10_notes (va_wsS RX10 115 yX10_in wsX10_in) := goodIn_app (goodIn_sub (xc (xt1 (xl (xt1 (xt1 (xt1 (xh)))))) (xc (xt1 (xl (xt4 (xh)))) (xc (xt1 (xl (xt4 (xt1 (xh))))) (xn)))) (by decide +kernel)) ggX10_notes_X10_in
set_option maxRecDepth 20000 in
theorem ggX10_notes_X10_throwsIf : GoodIn wsX10_notes wsX10_throwsIf := goodIn_sub (xc (xt1 (xl (xt4 (xt4 (xt1 (xt1 (xh))))))) (xa (xc (xt1 (xl (xh))) (xn)) (fun _ h => xt1 (xr (h))))) (by decide +kernel)
set_option maxRecDepth 20000 in
theorem gX10_notes_X10_throwsIf : GoodIn wsX10_notes (wsV RX10 122 RX10 yX10_throwsIf wsX10_throwsIf) := goodIn_app (goodIn_sub (xc (xt1 (xl (xt4 (xt1 (xt1 (xt1 (xh))))))) (xc (xt1 (xl (xt4 (xt4 (xh))))) (xc (xt1 (xl (xt4 (xt4 (xt1 (xh)))))) (xc (xt1 (xl (xt4 (xt1 (xh))))) (xn))))) (by decide +kernel)) ggX10_notes_X10_throwsIf
theorem dX10_notes_0 : decode cX10_notes 0 = .ok (.aload_n 0, 1) := by decide +kernel
theorem dX10_notes_1 : decode cX10_notes 1 = .ok (.iconst 0, 1) := by decide +kernel
theorem dX10_notes_2 : decode cX10_notes 2 = .ok (.putfield 109, 3) := by decide +kernel
theorem dX10_notes_5 : decode cX10_notes 5 = .ok (.aload_n 0, 1) := by decide +kernel
theorem dX10_notes_6 : decode cX10_notes 6 = .ok (.iload_n 1, 1) := by decide +kernel
theorem dX10_notes_7 : decode cX10_notes 7 = .ok (.iconst 0, 1) := by decide +kernel
theorem dX10_notes_8 : decode cX10_notes 8 = .ok (.bipush 7, 2) := by decide +kernel
theorem dX10_notes_10 : decode cX10_notes 10 = .ok (.invokestatic 115, 3) := by decide +kernel
theorem dX10_notes_13 : decode cX10_notes 13 = .ok (.ifCond .ne 7, 3) := by decide +kernel
theorem dX10_notes_16 : decode cX10_notes 16 = .ok (.iconst 1, 1) := by decide +kernel
theorem dX10_notes_17 : decode cX10_notes 17 = .ok (.goto 4, 3) := by decide +kernel
theorem dX10_notes_20 : decode cX10_notes 20 = .ok (.iconst 0, 1) := by decide +kernel
theorem dX10_notes_21 : decode cX10_notes 21 = .ok (.iconst 1, 1) := by decide +kernel
theorem dX10_notes_22 : decode cX10_notes 22 = .ok (.invokevirtual 122, 3) := by decide +kernel
theorem dX10_notes_25 : decode cX10_notes 25 = .ok (.ifCond .eq 7, 3) := by decide +kernel
theorem dX10_notes_28 : decode cX10_notes 28 = .ok (.iconst 0, 1) := by decide +kernel
theorem dX10_notes_29 : decode cX10_notes 29 = .ok (.goto 22, 3) := by decide +kernel
theorem dX10_notes_32 : decode cX10_notes 32 = .ok (.iload_n 2, 1) := by decide +kernel
theorem dX10_notes_33 : decode cX10_notes 33 = .ok (.ifCond .eq 12, 3) := by decide +kernel
theorem dX10_notes_36 : decode cX10_notes 36 = .ok (.aload_n 0, 1) := by decide +kernel
theorem dX10_notes_37 : decode cX10_notes 37 = .ok (.getfield 59, 3) := by decide +kernel
theorem dX10_notes_40 : decode cX10_notes 40 = .ok (.iload_n 1, 1) := by decide +kernel
theorem dX10_notes_41 : decode cX10_notes 41 = .ok (.iaload, 1) := by decide +kernel
theorem dX10_notes_42 : decode cX10_notes 42 = .ok (.goto 9, 3) := by decide +kernel
theorem dX10_notes_45 : decode cX10_notes 45 = .ok (.aload_n 0, 1) := by decide +kernel
theorem dX10_notes_46 : decode cX10_notes 46 = .ok (.getfield 56, 3) := by decide +kernel
theorem dX10_notes_49 : decode cX10_notes 49 = .ok (.iload_n 1, 1) := by decide +kernel
theorem dX10_notes_50 : decode cX10_notes 50 = .ok (.iaload, 1) := by decide +kernel
theorem dX10_notes_51 : decode cX10_notes 51 = .ok (.ireturn, 1) := by decide +kernel
set_option maxRecDepth 20000 in
theorem ggX10_noStamp_X10_in : GoodIn wsX10_noStamp wsX10_in := goodIn_sub (xc (xt1 (xt1 (xt1 (xt1 (xh))))) (xn)) (by decide +kernel)
set_option maxRecDepth 20000 in
theorem gX10_noStamp_X10_in : GoodIn wsX10_noStamp (va_wsS RX10 115 yX10_in wsX10_in) := goodIn_app (goodIn_sub (xc (xt1 (xh)) (xc (xt1 (xt1 (xh))) (xc (xt1 (xt1 (xt1 (xh)))) (xn)))) (by decide +kernel)) ggX10_noStamp_X10_in
theorem dX10_noStamp_0 : decode cX10_noStamp 0 = .ok (.iload_n 0, 1) := by decide +kernel
theorem dX10_noStamp_1 : decode cX10_noStamp 1 = .ok (.iconst 0, 1) := by decide +kernel
theorem dX10_noStamp_2 : decode cX10_noStamp 2 = .ok (.bipush 11, 2) := by decide +kernel
theorem dX10_noStamp_4 : decode cX10_noStamp 4 = .ok (.invokestatic 115, 3) := by decide +kernel
theorem dX10_noStamp_7 : decode cX10_noStamp 7 = .ok (.ifCond .ne 7, 3) := by decide +kernel
theorem dX10_noStamp_10 : decode cX10_noStamp 10 = .ok (.iconst 1, 1) := by decide +kernel
theorem dX10_noStamp_11 : decode cX10_noStamp 11 = .ok (.goto 4, 3) := by decide +kernel
theorem dX10_noStamp_14 : decode cX10_noStamp 14 = .ok (.iconst 0, 1) := by decide +kernel
theorem dX10_noStamp_15 : decode cX10_noStamp 15 = .ok (.ireturn, 1) := by decide +kernel
set_option maxRecDepth 20000 in
theorem ggX10_noSherd_X10_in : GoodIn wsX10_noSherd wsX10_in := goodIn_sub (xc (xt1 (xl (xt4 (xh)))) (xn)) (by decide +kernel)
set_option maxRecDepth 20000 in
theorem gX10_noSherd_X10_in : GoodIn wsX10_noSherd (va_wsS RX10 115 yX10_in wsX10_in) := goodIn_app (goodIn_sub (xc (xt1 (xl (xt1 (xh)))) (xc (xt1 (xl (xt1 (xt1 (xh))))) (xc (xt1 (xl (xt1 (xt1 (xt1 (xh)))))) (xn)))) (by decide +kernel)) ggX10_noSherd_X10_in
theorem dX10_noSherd_0 : decode cX10_noSherd 0 = .ok (.iload_n 1, 1) := by decide +kernel
theorem dX10_noSherd_1 : decode cX10_noSherd 1 = .ok (.iconst 0, 1) := by decide +kernel
theorem dX10_noSherd_2 : decode cX10_noSherd 2 = .ok (.aload_n 0, 1) := by decide +kernel
theorem dX10_noSherd_3 : decode cX10_noSherd 3 = .ok (.getfield 208, 3) := by decide +kernel
theorem dX10_noSherd_6 : decode cX10_noSherd 6 = .ok (.iconst 1, 1) := by decide +kernel
theorem dX10_noSherd_7 : decode cX10_noSherd 7 = .ok (.isub, 1) := by decide +kernel
theorem dX10_noSherd_8 : decode cX10_noSherd 8 = .ok (.invokestatic 115, 3) := by decide +kernel
theorem dX10_noSherd_11 : decode cX10_noSherd 11 = .ok (.ifCond .ne 7, 3) := by decide +kernel
theorem dX10_noSherd_14 : decode cX10_noSherd 14 = .ok (.iconst 1, 1) := by decide +kernel
theorem dX10_noSherd_15 : decode cX10_noSherd 15 = .ok (.goto 4, 3) := by decide +kernel
theorem dX10_noSherd_18 : decode cX10_noSherd 18 = .ok (.iconst 0, 1) := by decide +kernel
theorem dX10_noSherd_19 : decode cX10_noSherd 19 = .ok (.ireturn, 1) := by decide +kernel
set_option maxRecDepth 20000 in
theorem ggX10_sherd_X10_noStamp : GoodIn wsX10_sherd wsX10_noStamp := goodIn_sub (xc (xt1 (xl (xt4 (xt4 (xh))))) (xc (xt1 (xl (xt4 (xt4 (xt1 (xh)))))) (xc (xt1 (xl (xt4 (xt4 (xt1 (xt1 (xh))))))) (xc (xt1 (xl (xt4 (xt1 (xt1 (xt1 (xh))))))) (xc (xt1 (xl (xt4 (xt4 (xt1 (xt1 (xt1 (xh)))))))) (xn)))))) (by decide +kernel)
set_option maxRecDepth 20000 in
theorem gX10_sherd_X10_noStamp : GoodIn wsX10_sherd (va_wsS RX10 211 yX10_noStamp wsX10_noStamp) := goodIn_app (goodIn_sub (xc (xt1 (xl (xt4 (xt1 (xh))))) (xc (xt1 (xl (xt4 (xt1 (xt1 (xh)))))) (xc (xt1 (xl (xt4 (xt1 (xt1 (xt1 (xh))))))) (xn)))) (by decide +kernel)) ggX10_sherd_X10_noStamp
set_option maxRecDepth 20000 in
theorem ggX10_sherd_X10_throwsIf : GoodIn wsX10_sherd wsX10_throwsIf := goodIn_sub (xc (xt1 (xl (xt4 (xt4 (xt4 (xt1 (xt1 (xt1 (xh))))))))) (xa (xc (xt1 (xl (xh))) (xn)) (fun _ h => xt1 (xr (h))))) (by decide +kernel)
set_option maxRecDepth 20000 in
theorem gX10_sherd_X10_throwsIf : GoodIn wsX10_sherd (wsV RX10 122 RX10 yX10_throwsIf wsX10_throwsIf) := goodIn_app (goodIn_sub (xc (xt1 (xl (xt4 (xt4 (xt4 (xh)))))) (xc (xt1 (xl (xt4 (xt4 (xt4 (xt1 (xh))))))) (xc (xt1 (xl (xt4 (xt4 (xt4 (xt1 (xt1 (xh)))))))) (xc (xt1 (xl (xt4 (xt1 (xt1 (xt1 (xh))))))) (xn))))) (by decide +kernel)) ggX10_sherd_X10_throwsIf
set_option maxRecDepth 20000 in
theorem ggX10_sherd_X10_in : GoodIn wsX10_sherd wsX10_in := goodIn_sub (xc (xt1 (xl (xt4 (xt4 (xt1 (xt1 (xt1 (xh)))))))) (xn)) (by decide +kernel)
set_option maxRecDepth 20000 in
theorem gX10_sherd_X10_in : GoodIn wsX10_sherd (va_wsS RX10 115 yX10_in wsX10_in) := goodIn_app (goodIn_sub (xc (xt1 (xl (xt4 (xt4 (xt1 (xh)))))) (xc (xt1 (xl (xt4 (xt4 (xt1 (xt1 (xh))))))) (xc (xt1 (xl (xt4 (xt1 (xt1 (xt1 (xh))))))) (xn)))) (by decide +kernel)) ggX10_sherd_X10_in
theorem dX10_sherd_0 : decode cX10_sherd 0 = .ok (.aload_n 0, 1) := by decide +kernel
theorem dX10_sherd_1 : decode cX10_sherd 1 = .ok (.iconst 0, 1) := by decide +kernel
theorem dX10_sherd_2 : decode cX10_sherd 2 = .ok (.putfield 109, 3) := by decide +kernel
theorem dX10_sherd_5 : decode cX10_sherd 5 = .ok (.aload_n 0, 1) := by decide +kernel
theorem dX10_sherd_6 : decode cX10_sherd 6 = .ok (.iload_n 2, 1) := by decide +kernel
theorem dX10_sherd_7 : decode cX10_sherd 7 = .ok (.iconst (-1), 1) := by decide +kernel
theorem dX10_sherd_8 : decode cX10_sherd 8 = .ok (.if_icmp .eq 14, 3) := by decide +kernel
theorem dX10_sherd_11 : decode cX10_sherd 11 = .ok (.iload_n 2, 1) := by decide +kernel
theorem dX10_sherd_12 : decode cX10_sherd 12 = .ok (.invokestatic 211, 3) := by decide +kernel
theorem dX10_sherd_15 : decode cX10_sherd 15 = .ok (.ifCond .eq 7, 3) := by decide +kernel
theorem dX10_sherd_18 : decode cX10_sherd 18 = .ok (.iconst 1, 1) := by decide +kernel
theorem dX10_sherd_19 : decode cX10_sherd 19 = .ok (.goto 4, 3) := by decide +kernel
theorem dX10_sherd_22 : decode cX10_sherd 22 = .ok (.iconst 0, 1) := by decide +kernel
theorem dX10_sherd_23 : decode cX10_sherd 23 = .ok (.iconst 1, 1) := by decide +kernel
theorem dX10_sherd_24 : decode cX10_sherd 24 = .ok (.invokevirtual 122, 3) := by decide +kernel
theorem dX10_sherd_27 : decode cX10_sherd 27 = .ok (.ifCond .ne 48, 3) := by decide +kernel
theorem dX10_sherd_30 : decode cX10_sherd 30 = .ok (.aload_n 0, 1) := by decide +kernel
theorem dX10_sherd_31 : decode cX10_sherd 31 = .ok (.iload_n 1, 1) := by decide +kernel
theorem dX10_sherd_32 : decode cX10_sherd 32 = .ok (.iconst 0, 1) := by decide +kernel
theorem dX10_sherd_33 : decode cX10_sherd 33 = .ok (.bipush 15, 2) := by decide +kernel
theorem dX10_sherd_35 : decode cX10_sherd 35 = .ok (.invokestatic 115, 3) := by decide +kernel
theorem dX10_sherd_38 : decode cX10_sherd 38 = .ok (.ifCond .ne 7, 3) := by decide +kernel
theorem dX10_sherd_41 : decode cX10_sherd 41 = .ok (.iconst 1, 1) := by decide +kernel
theorem dX10_sherd_42 : decode cX10_sherd 42 = .ok (.goto 4, 3) := by decide +kernel
theorem dX10_sherd_45 : decode cX10_sherd 45 = .ok (.iconst 0, 1) := by decide +kernel
theorem dX10_sherd_46 : decode cX10_sherd 46 = .ok (.iconst 2, 1) := by decide +kernel
theorem dX10_sherd_47 : decode cX10_sherd 47 = .ok (.invokevirtual 122, 3) := by decide +kernel
theorem dX10_sherd_50 : decode cX10_sherd 50 = .ok (.ifCond .ne 25, 3) := by decide +kernel
theorem dX10_sherd_53 : decode cX10_sherd 53 = .ok (.aload_n 0, 1) := by decide +kernel
theorem dX10_sherd_54 : decode cX10_sherd 54 = .ok (.aload_n 0, 1) := by decide +kernel
theorem dX10_sherd_55 : decode cX10_sherd 55 = .ok (.getfield 208, 3) := by decide +kernel
theorem dX10_sherd_58 : decode cX10_sherd 58 = .ok (.bipush 60, 2) := by decide +kernel
theorem dX10_sherd_60 : decode cX10_sherd 60 = .ok (.if_icmp .ne 7, 3) := by decide +kernel
theorem dX10_sherd_63 : decode cX10_sherd 63 = .ok (.iconst 1, 1) := by decide +kernel
theorem dX10_sherd_64 : decode cX10_sherd 64 = .ok (.goto 4, 3) := by decide +kernel
theorem dX10_sherd_67 : decode cX10_sherd 67 = .ok (.iconst 0, 1) := by decide +kernel
theorem dX10_sherd_68 : decode cX10_sherd 68 = .ok (.iconst 3, 1) := by decide +kernel
theorem dX10_sherd_69 : decode cX10_sherd 69 = .ok (.invokevirtual 122, 3) := by decide +kernel
theorem dX10_sherd_72 : decode cX10_sherd 72 = .ok (.ifCond .eq 5, 3) := by decide +kernel
theorem dX10_sherd_75 : decode cX10_sherd 75 = .ok (.iconst 0, 1) := by decide +kernel
theorem dX10_sherd_76 : decode cX10_sherd 76 = .ok (.ireturn, 1) := by decide +kernel
theorem dX10_sherd_77 : decode cX10_sherd 77 = .ok (.aload_n 0, 1) := by decide +kernel
theorem dX10_sherd_78 : decode cX10_sherd 78 = .ok (.getfield 76, 3) := by decide +kernel
theorem dX10_sherd_81 : decode cX10_sherd 81 = .ok (.aload_n 0, 1) := by decide +kernel
theorem dX10_sherd_82 : decode cX10_sherd 82 = .ok (.getfield 208, 3) := by decide +kernel
theorem dX10_sherd_85 : decode cX10_sherd 85 = .ok (.iload_n 1, 1) := by decide +kernel
theorem dX10_sherd_86 : decode cX10_sherd 86 = .ok (.iastore, 1) := by decide +kernel
theorem dX10_sherd_87 : decode cX10_sherd 87 = .ok (.aload_n 0, 1) := by decide +kernel
theorem dX10_sherd_88 : decode cX10_sherd 88 = .ok (.getfield 79, 3) := by decide +kernel
theorem dX10_sherd_91 : decode cX10_sherd 91 = .ok (.aload_n 0, 1) := by decide +kernel
theorem dX10_sherd_92 : decode cX10_sherd 92 = .ok (.getfield 208, 3) := by decide +kernel
theorem dX10_sherd_95 : decode cX10_sherd 95 = .ok (.iload_n 2, 1) := by decide +kernel
theorem dX10_sherd_96 : decode cX10_sherd 96 = .ok (.iastore, 1) := by decide +kernel
theorem dX10_sherd_97 : decode cX10_sherd 97 = .ok (.aload_n 0, 1) := by decide +kernel
theorem dX10_sherd_98 : decode cX10_sherd 98 = .ok (.getfield 82, 3) := by decide +kernel
theorem dX10_sherd_101 : decode cX10_sherd 101 = .ok (.aload_n 0, 1) := by decide +kernel
theorem dX10_sherd_102 : decode cX10_sherd 102 = .ok (.getfield 208, 3) := by decide +kernel
theorem dX10_sherd_105 : decode cX10_sherd 105 = .ok (.aload_n 0, 1) := by decide +kernel
theorem dX10_sherd_106 : decode cX10_sherd 106 = .ok (.getfield 208, 3) := by decide +kernel
theorem dX10_sherd_109 : decode cX10_sherd 109 = .ok (.iastore, 1) := by decide +kernel
theorem dX10_sherd_110 : decode cX10_sherd 110 = .ok (.aload_n 0, 1) := by decide +kernel
theorem dX10_sherd_111 : decode cX10_sherd 111 = .ok (.dup, 1) := by decide +kernel
theorem dX10_sherd_112 : decode cX10_sherd 112 = .ok (.getfield 208, 3) := by decide +kernel
theorem dX10_sherd_115 : decode cX10_sherd 115 = .ok (.iconst 1, 1) := by decide +kernel
theorem dX10_sherd_116 : decode cX10_sherd 116 = .ok (.iadd, 1) := by decide +kernel
theorem dX10_sherd_117 : decode cX10_sherd 117 = .ok (.putfield 208, 3) := by decide +kernel
theorem dX10_sherd_120 : decode cX10_sherd 120 = .ok (.aload_n 0, 1) := by decide +kernel
