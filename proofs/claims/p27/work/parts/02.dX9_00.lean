set_option maxRecDepth 20000 in
theorem ggX9_init_X7_init : GoodIn wsX9_init wsX7_init := goodIn_sub (xc (xt1 (xl (xl (xl (xl (xl (xl (xl (xl (xl (xl (xr (xl (xt16 (xt1 (xt1 (xt1 (xh)))))))))))))))))) (xa (xc (xt1 (xl (xl (xl (xl (xl (xl (xl (xl (xl (xl (xr (xl (xt16 (xt4 (xh)))))))))))))))) (xc (xt1 (xl (xl (xl (xl (xl (xl (xl (xl (xl (xl (xl (xt1 (xh)))))))))))))) (xc (xt1 (xl (xl (xl (xl (xl (xl (xl (xl (xl (xl (xl (xt1 (xt1 (xh))))))))))))))) (xc (xt1 (xl (xl (xl (xl (xl (xl (xl (xl (xl (xl (xr (xl (xt16 (xt4 (xt1 (xh))))))))))))))))) (xc (xt1 (xl (xl (xl (xl (xl (xl (xl (xl (xl (xl (xr (xl (xt16 (xt4 (xt1 (xt1 (xh)))))))))))))))))) (xc (xt1 (xl (xl (xl (xl (xl (xl (xl (xl (xl (xl (xr (xl (xt16 (xt4 (xt1 (xt1 (xt1 (xh))))))))))))))))))) (xn))))))) (fun _ h => xt1 (xl (xl (xl (xl (xl (xl (xl (xl (xl (xr (h)))))))))))))) (by decide +kernel)
set_option maxRecDepth 20000 in
theorem gX9_init_X7_init : GoodIn wsX9_init (wsX7_init) := ggX9_init_X7_init
set_option maxRecDepth 20000 in
theorem ggX9_init_X3_init : GoodIn wsX9_init wsX3_init := goodIn_sub (xc (xt1 (xl (xl (xl (xl (xl (xl (xl (xl (xl (xl (xr (xr (xl (xt1 (xt1 (xh))))))))))))))))) (xa (xc (xt1 (xl (xl (xl (xl (xl (xl (xl (xl (xl (xl (xr (xr (xl (xt1 (xt1 (xt1 (xh)))))))))))))))))) (xc (xt1 (xl (xl (xl (xl (xl (xl (xl (xl (xl (xl (xl (xt1 (xh)))))))))))))) (xc (xt1 (xl (xl (xl (xl (xl (xl (xl (xl (xl (xl (xl (xt1 (xt1 (xh))))))))))))))) (xc (xt1 (xl (xl (xl (xl (xl (xl (xl (xl (xl (xl (xr (xr (xl (xt4 (xh)))))))))))))))) (xc (xt1 (xl (xl (xl (xl (xl (xl (xl (xl (xl (xl (xr (xr (xl (xt4 (xt1 (xh))))))))))))))))) (xn)))))) (fun _ h => xt1 (xl (xl (xl (xl (xl (xl (xl (xr (h)))))))))))) (by decide +kernel)
set_option maxRecDepth 20000 in
theorem gX9_init_X3_init : GoodIn wsX9_init (wsX3_init) := ggX9_init_X3_init
set_option maxRecDepth 20000 in
theorem ggX9_init_X2_init : GoodIn wsX9_init wsX2_init := goodIn_sub (xc (xt1 (xl (xl (xl (xl (xl (xl (xl (xl (xl (xl (xr (xr (xl (xt4 (xt4 (xh))))))))))))))))) (xa (xc (xt1 (xl (xl (xl (xl (xl (xl (xl (xl (xl (xl (xr (xr (xl (xt4 (xt4 (xt1 (xh)))))))))))))))))) (xc (xt1 (xl (xl (xl (xl (xl (xl (xl (xl (xl (xl (xl (xt1 (xh)))))))))))))) (xc (xt1 (xl (xl (xl (xl (xl (xl (xl (xl (xl (xl (xl (xt1 (xt1 (xh))))))))))))))) (xc (xt1 (xl (xl (xl (xl (xl (xl (xl (xl (xl (xl (xr (xr (xl (xt4 (xh)))))))))))))))) (xc (xt1 (xl (xl (xl (xl (xl (xl (xl (xl (xl (xl (xr (xr (xl (xt4 (xt4 (xt1 (xt1 (xh))))))))))))))))))) (xc (xt1 (xl (xl (xl (xl (xl (xl (xl (xl (xl (xl (xr (xr (xl (xt4 (xt4 (xt1 (xt1 (xt1 (xh)))))))))))))))))))) (xc (xt1 (xl (xl (xl (xl (xl (xl (xl (xl (xl (xl (xr (xr (xl (xt4 (xt4 (xt4 (xh)))))))))))))))))) (xc (xt1 (xl (xl (xl (xl (xl (xl (xl (xl (xl (xl (xr (xr (xl (xt4 (xt4 (xt4 (xt1 (xh))))))))))))))))))) (xn))))))))) (fun _ h => xt1 (xl (xl (xl (xl (xl (xl (xr (h))))))))))) (by decide +kernel)
set_option maxRecDepth 20000 in
theorem gX9_init_X2_init : GoodIn wsX9_init (wsX2_init) := ggX9_init_X2_init
set_option maxRecDepth 20000 in
theorem ggX9_init_X1_init : GoodIn wsX9_init wsX1_init := goodIn_sub (xc (xt1 (xl (xl (xl (xl (xl (xl (xl (xl (xl (xl (xr (xr (xl (xt16 (xh)))))))))))))))) (xa (xc (xt1 (xl (xl (xl (xl (xl (xl (xl (xl (xl (xl (xr (xr (xl (xt16 (xt1 (xh))))))))))))))))) (xc (xt1 (xl (xl (xl (xl (xl (xl (xl (xl (xl (xl (xl (xt1 (xh)))))))))))))) (xc (xt1 (xl (xl (xl (xl (xl (xl (xl (xl (xl (xl (xl (xt1 (xt1 (xh))))))))))))))) (xc (xt1 (xl (xl (xl (xl (xl (xl (xl (xl (xl (xl (xr (xr (xl (xt16 (xt1 (xt1 (xh)))))))))))))))))) (xc (xt1 (xl (xl (xl (xl (xl (xl (xl (xl (xl (xl (xr (xr (xl (xt4 (xh)))))))))))))))) (xc (xt1 (xl (xl (xl (xl (xl (xl (xl (xl (xl (xl (xr (xr (xl (xt16 (xt1 (xt1 (xt1 (xh))))))))))))))))))) (xc (xt1 (xl (xl (xl (xl (xl (xl (xl (xl (xl (xl (xr (xr (xl (xt16 (xt4 (xh))))))))))))))))) (xc (xt1 (xl (xl (xl (xl (xl (xl (xl (xl (xl (xl (xr (xr (xl (xt16 (xt4 (xt1 (xh)))))))))))))))))) (xc (xt1 (xl (xl (xl (xl (xl (xl (xl (xl (xl (xl (xr (xr (xl (xt16 (xt4 (xt1 (xt1 (xh))))))))))))))))))) (xc (xt1 (xl (xl (xl (xl (xl (xl (xl (xl (xl (xl (xr (xr (xl (xt16 (xt4 (xt1 (xt1 (xt1 (xh)))))))))))))))))))) (xc (xt1 (xl (xl (xl (xl (xl (xl (xl (xl (xl (xl (xr (xr (xr (xl (xh)))))))))))))))) (xc (xt1 (xl (xl (xl (xl (xl (xl (xl (xl (xl (xl (xr (xr (xr (xl (xt1 (xh))))))))))))))))) (xn))))))))))))) (fun _ h => xt1 (xl (xl (xl (xl (xl (xr (h)))))))))) (by decide +kernel)
set_option maxRecDepth 20000 in
theorem gX9_init_X1_init : GoodIn wsX9_init (wsX1_init) := ggX9_init_X1_init
set_option maxRecDepth 20000 in
theorem ggX9_init_X0_init : GoodIn wsX9_init wsX0_init := goodIn_sub (xc (xt1 (xl (xl (xl (xl (xl (xl (xl (xl (xl (xl (xr (xr (xr (xl (xt4 (xh))))))))))))))))) (xa (xc (xt1 (xl (xl (xl (xl (xl (xl (xl (xl (xl (xl (xr (xr (xr (xl (xt4 (xt1 (xh)))))))))))))))))) (xc (xt1 (xl (xl (xl (xl (xl (xl (xl (xl (xl (xl (xl (xt1 (xh)))))))))))))) (xc (xt1 (xl (xl (xl (xl (xl (xl (xl (xl (xl (xl (xl (xt1 (xt1 (xh))))))))))))))) (xc (xt1 (xl (xl (xl (xl (xl (xl (xl (xl (xl (xl (xr (xr (xr (xl (xt4 (xt1 (xt1 (xh))))))))))))))))))) (xc (xt1 (xl (xl (xl (xl (xl (xl (xl (xl (xl (xl (xr (xr (xl (xt4 (xh)))))))))))))))) (xc (xt1 (xl (xl (xl (xl (xl (xl (xl (xl (xl (xl (xr (xr (xr (xl (xt4 (xt1 (xt1 (xt1 (xh)))))))))))))))))))) (xc (xt1 (xl (xl (xl (xl (xl (xl (xl (xl (xl (xl (xr (xr (xr (xl (xt4 (xt4 (xh)))))))))))))))))) (xc (xt1 (xl (xl (xl (xl (xl (xl (xl (xl (xl (xl (xr (xr (xr (xl (xt4 (xt4 (xt1 (xh))))))))))))))))))) (xn))))))))) (fun _ h => xt1 (xl (xl (xl (xl (xr (h))))))))) (by decide +kernel)
set_option maxRecDepth 20000 in
theorem gX9_init_X0_init : GoodIn wsX9_init (wsX0_init) := ggX9_init_X0_init
set_option maxRecDepth 20000 in
theorem ggX9_init_X6_init : GoodIn wsX9_init wsX6_init := goodIn_sub (xc (xt1 (xl (xl (xl (xl (xl (xl (xl (xl (xl (xl (xr (xr (xr (xl (xt4 (xt4 (xt4 (xh))))))))))))))))))) (xa (xc (xt1 (xl (xl (xl (xl (xl (xl (xl (xl (xl (xl (xr (xr (xr (xl (xt4 (xt4 (xt4 (xt1 (xh)))))))))))))))))))) (xc (xt1 (xl (xl (xl (xl (xl (xl (xl (xl (xl (xl (xl (xt1 (xh)))))))))))))) (xc (xt1 (xl (xl (xl (xl (xl (xl (xl (xl (xl (xl (xl (xt1 (xt1 (xh))))))))))))))) (xc (xt1 (xl (xl (xl (xl (xl (xl (xl (xl (xl (xl (xr (xr (xr (xl (xt4 (xt4 (xt4 (xt1 (xt1 (xh))))))))))))))))))))) (xc (xt1 (xl (xl (xl (xl (xl (xl (xl (xl (xl (xl (xr (xr (xl (xt4 (xh)))))))))))))))) (xc (xt1 (xl (xl (xl (xl (xl (xl (xl (xl (xl (xl (xr (xr (xr (xl (xt4 (xt4 (xt4 (xt1 (xt1 (xt1 (xh)))))))))))))))))))))) (xc (xt1 (xl (xl (xl (xl (xl (xl (xl (xl (xl (xl (xr (xr (xr (xl (xt16 (xh))))))))))))))))) (xc (xt1 (xl (xl (xl (xl (xl (xl (xl (xl (xl (xl (xr (xr (xr (xl (xt16 (xt1 (xh)))))))))))))))))) (xn))))))))) (fun _ h => xt1 (xl (xl (xl (xr (h)))))))) (by decide +kernel)
set_option maxRecDepth 20000 in
theorem gX9_init_X6_init : GoodIn wsX9_init (wsX6_init) := ggX9_init_X6_init
set_option maxRecDepth 20000 in
theorem ggX9_init_X4_init : GoodIn wsX9_init wsX4_init := goodIn_sub (xc (xt1 (xl (xl (xl (xl (xl (xl (xl (xl (xl (xl (xr (xr (xr (xl (xt16 (xt4 (xh)))))))))))))))))) (xa (xc (xt1 (xl (xl (xl (xl (xl (xl (xl (xl (xl (xl (xr (xr (xr (xl (xt16 (xt4 (xt1 (xh))))))))))))))))))) (xc (xt1 (xl (xl (xl (xl (xl (xl (xl (xl (xl (xl (xl (xt1 (xh)))))))))))))) (xc (xt1 (xl (xl (xl (xl (xl (xl (xl (xl (xl (xl (xl (xt1 (xt1 (xh))))))))))))))) (xc (xt1 (xl (xl (xl (xl (xl (xl (xl (xl (xl (xl (xr (xr (xl (xt4 (xh)))))))))))))))) (xc (xt1 (xl (xl (xl (xl (xl (xl (xl (xl (xl (xl (xr (xr (xr (xl (xt16 (xt4 (xt1 (xt1 (xh)))))))))))))))))))) (xc (xt1 (xl (xl (xl (xl (xl (xl (xl (xl (xl (xl (xr (xr (xr (xl (xt16 (xt4 (xt1 (xt1 (xt1 (xh))))))))))))))))))))) (xc (xt1 (xl (xl (xl (xl (xl (xl (xl (xl (xl (xl (xr (xr (xr (xr (xh)))))))))))))))) (xn)))))))) (fun _ h => xt1 (xl (xl (xr (h))))))) (by decide +kernel)
set_option maxRecDepth 20000 in
theorem gX9_init_X4_init : GoodIn wsX9_init (wsX4_init) := ggX9_init_X4_init
set_option maxRecDepth 20000 in
theorem ggX9_init_X5_init : GoodIn wsX9_init wsX5_init := goodIn_sub (xc (xt1 (xl (xl (xl (xl (xl (xl (xl (xl (xl (xl (xr (xr (xr (xr (xt1 (xt1 (xt1 (xh))))))))))))))))))) (xa (xc (xt1 (xl (xl (xl (xl (xl (xl (xl (xl (xl (xl (xr (xr (xr (xr (xt4 (xh))))))))))))))))) (xc (xt1 (xl (xl (xl (xl (xl (xl (xl (xl (xl (xl (xl (xt1 (xh)))))))))))))) (xc (xt1 (xl (xl (xl (xl (xl (xl (xl (xl (xl (xl (xl (xt1 (xt1 (xh))))))))))))))) (xc (xt1 (xl (xl (xl (xl (xl (xl (xl (xl (xl (xl (xr (xr (xl (xt4 (xh)))))))))))))))) (xc (xt1 (xl (xl (xl (xl (xl (xl (xl (xl (xl (xl (xr (xr (xr (xr (xt4 (xt1 (xh)))))))))))))))))) (xc (xt1 (xl (xl (xl (xl (xl (xl (xl (xl (xl (xl (xr (xr (xr (xr (xt4 (xt1 (xt1 (xh))))))))))))))))))) (xc (xt1 (xl (xl (xl (xl (xl (xl (xl (xl (xl (xl (xr (xr (xr (xr (xt4 (xt1 (xt1 (xt1 (xh)))))))))))))))))))) (xc (xt1 (xl (xl (xl (xl (xl (xl (xl (xl (xl (xl (xr (xr (xr (xr (xt4 (xt4 (xh)))))))))))))))))) (xc (xt1 (xl (xl (xl (xl (xl (xl (xl (xl (xl (xl (xr (xr (xr (xr (xt4 (xt4 (xt1 (xh))))))))))))))))))) (xn)))))))))) (fun _ h => xt1 (xl (xr (h)))))) (by decide +kernel)
set_option maxRecDepth 20000 in
theorem gX9_init_X5_init : GoodIn wsX9_init (wsX5_init) := ggX9_init_X5_init
set_option maxRecDepth 20000 in
theorem ggX9_init_X8_init : GoodIn wsX9_init wsX8_init := goodIn_sub (xc (xt1 (xl (xl (xl (xl (xl (xl (xl (xl (xl (xl (xr (xr (xr (xr (xt4 (xt4 (xt4 (xh))))))))))))))))))) (xa (xc (xt1 (xl (xl (xl (xl (xl (xl (xl (xl (xl (xl (xr (xr (xr (xr (xt4 (xt4 (xt4 (xt1 (xh)))))))))))))))))))) (xc (xt1 (xl (xl (xl (xl (xl (xl (xl (xl (xl (xl (xl (xt1 (xh)))))))))))))) (xc (xt1 (xl (xl (xl (xl (xl (xl (xl (xl (xl (xl (xl (xt1 (xt1 (xh))))))))))))))) (xc (xt1 (xl (xl (xl (xl (xl (xl (xl (xl (xl (xl (xr (xr (xl (xt4 (xh)))))))))))))))) (xc (xt1 (xl (xl (xl (xl (xl (xl (xl (xl (xl (xl (xr (xr (xr (xr (xt4 (xt4 (xt4 (xt1 (xt1 (xh))))))))))))))))))))) (xc (xt1 (xl (xl (xl (xl (xl (xl (xl (xl (xl (xl (xr (xr (xr (xr (xt4 (xt4 (xt4 (xt1 (xt1 (xt1 (xh)))))))))))))))))))))) (xc (xt1 (xl (xl (xl (xl (xl (xl (xl (xl (xl (xl (xr (xr (xr (xr (xt16 (xh))))))))))))))))) (xc (xt1 (xl (xl (xl (xl (xl (xl (xl (xl (xl (xl (xr (xr (xr (xr (xt16 (xt1 (xh)))))))))))))))))) (xc (xt1 (xl (xl (xl (xl (xl (xl (xl (xl (xl (xl (xr (xr (xr (xr (xt16 (xt1 (xt1 (xh))))))))))))))))))) (xc (xt1 (xl (xl (xl (xl (xl (xl (xl (xl (xl (xl (xr (xr (xr (xr (xt16 (xt1 (xt1 (xt1 (xh)))))))))))))))))))) (xc (xt1 (xl (xl (xl (xl (xl (xl (xl (xl (xl (xl (xr (xr (xr (xr (xt16 (xt4 (xh)))))))))))))))))) (xc (xt1 (xl (xl (xl (xl (xl (xl (xl (xl (xl (xl (xr (xr (xr (xr (xt16 (xt4 (xt1 (xh))))))))))))))))))) (xc (xt1 (xl (xl (xl (xl (xl (xl (xl (xl (xl (xl (xr (xr (xr (xr (xt16 (xt4 (xt1 (xt1 (xh)))))))))))))))))))) (xc (xt1 (xl (xl (xl (xl (xl (xl (xl (xl (xl (xl (xr (xr (xr (xr (xt16 (xt4 (xt1 (xt1 (xt1 (xh))))))))))))))))))))) (xn))))))))))))))) (fun _ h => xt1 (xr (h))))) (by decide +kernel)
set_option maxRecDepth 20000 in
theorem gX9_init_X8_init : GoodIn wsX9_init (wsX8_init) := ggX9_init_X8_init
theorem dX9_init_0 : decode cX9_init 0 = .ok (.aload_n 0, 1) := by decide +kernel
theorem dX9_init_1 : decode cX9_init 1 = .ok (.invokespecial 1, 3) := by decide +kernel
theorem dX9_init_4 : decode cX9_init 4 = .ok (.aload_n 0, 1) := by decide +kernel
theorem dX9_init_5 : decode cX9_init 5 = .ok (.new 7, 3) := by decide +kernel
theorem dX9_init_8 : decode cX9_init 8 = .ok (.dup, 1) := by decide +kernel
theorem dX9_init_9 : decode cX9_init 9 = .ok (.invokespecial 9, 3) := by decide +kernel
theorem dX9_init_12 : decode cX9_init 12 = .ok (.putfield 10, 3) := by decide +kernel
theorem dX9_init_15 : decode cX9_init 15 = .ok (.aload_n 0, 1) := by decide +kernel
theorem dX9_init_16 : decode cX9_init 16 = .ok (.new 16, 3) := by decide +kernel
theorem dX9_init_19 : decode cX9_init 19 = .ok (.dup, 1) := by decide +kernel
theorem dX9_init_20 : decode cX9_init 20 = .ok (.invokespecial 18, 3) := by decide +kernel
theorem dX9_init_23 : decode cX9_init 23 = .ok (.putfield 19, 3) := by decide +kernel
theorem dX9_init_26 : decode cX9_init 26 = .ok (.aload_n 0, 1) := by decide +kernel
theorem dX9_init_27 : decode cX9_init 27 = .ok (.new 23, 3) := by decide +kernel
theorem dX9_init_30 : decode cX9_init 30 = .ok (.dup, 1) := by decide +kernel
theorem dX9_init_31 : decode cX9_init 31 = .ok (.invokespecial 25, 3) := by decide +kernel
theorem dX9_init_34 : decode cX9_init 34 = .ok (.putfield 26, 3) := by decide +kernel
theorem dX9_init_37 : decode cX9_init 37 = .ok (.aload_n 0, 1) := by decide +kernel
theorem dX9_init_38 : decode cX9_init 38 = .ok (.new 30, 3) := by decide +kernel
theorem dX9_init_41 : decode cX9_init 41 = .ok (.dup, 1) := by decide +kernel
theorem dX9_init_42 : decode cX9_init 42 = .ok (.aload_n 0, 1) := by decide +kernel
theorem dX9_init_43 : decode cX9_init 43 = .ok (.getfield 26, 3) := by decide +kernel
theorem dX9_init_46 : decode cX9_init 46 = .ok (.invokespecial 32, 3) := by decide +kernel
theorem dX9_init_49 : decode cX9_init 49 = .ok (.putfield 35, 3) := by decide +kernel
theorem dX9_init_52 : decode cX9_init 52 = .ok (.aload_n 0, 1) := by decide +kernel
theorem dX9_init_53 : decode cX9_init 53 = .ok (.new 39, 3) := by decide +kernel
theorem dX9_init_56 : decode cX9_init 56 = .ok (.dup, 1) := by decide +kernel
theorem dX9_init_57 : decode cX9_init 57 = .ok (.aload_n 0, 1) := by decide +kernel
theorem dX9_init_58 : decode cX9_init 58 = .ok (.getfield 35, 3) := by decide +kernel
theorem dX9_init_61 : decode cX9_init 61 = .ok (.invokespecial 41, 3) := by decide +kernel
theorem dX9_init_64 : decode cX9_init 64 = .ok (.putfield 44, 3) := by decide +kernel
theorem dX9_init_67 : decode cX9_init 67 = .ok (.aload_n 0, 1) := by decide +kernel
theorem dX9_init_68 : decode cX9_init 68 = .ok (.new 48, 3) := by decide +kernel
theorem dX9_init_71 : decode cX9_init 71 = .ok (.dup, 1) := by decide +kernel
theorem dX9_init_72 : decode cX9_init 72 = .ok (.aload_n 0, 1) := by decide +kernel
theorem dX9_init_73 : decode cX9_init 73 = .ok (.getfield 35, 3) := by decide +kernel
theorem dX9_init_76 : decode cX9_init 76 = .ok (.invokespecial 50, 3) := by decide +kernel
theorem dX9_init_79 : decode cX9_init 79 = .ok (.putfield 51, 3) := by decide +kernel
theorem dX9_init_82 : decode cX9_init 82 = .ok (.aload_n 0, 1) := by decide +kernel
theorem dX9_init_83 : decode cX9_init 83 = .ok (.new 55, 3) := by decide +kernel
theorem dX9_init_86 : decode cX9_init 86 = .ok (.dup, 1) := by decide +kernel
theorem dX9_init_87 : decode cX9_init 87 = .ok (.invokespecial 57, 3) := by decide +kernel
theorem dX9_init_90 : decode cX9_init 90 = .ok (.putfield 58, 3) := by decide +kernel
theorem dX9_init_93 : decode cX9_init 93 = .ok (.aload_n 0, 1) := by decide +kernel
theorem dX9_init_94 : decode cX9_init 94 = .ok (.new 62, 3) := by decide +kernel
theorem dX9_init_97 : decode cX9_init 97 = .ok (.dup, 1) := by decide +kernel
theorem dX9_init_98 : decode cX9_init 98 = .ok (.invokespecial 64, 3) := by decide +kernel
theorem dX9_init_101 : decode cX9_init 101 = .ok (.putfield 65, 3) := by decide +kernel
theorem dX9_init_104 : decode cX9_init 104 = .ok (.aload_n 0, 1) := by decide +kernel
theorem dX9_init_105 : decode cX9_init 105 = .ok (.new 69, 3) := by decide +kernel
theorem dX9_init_108 : decode cX9_init 108 = .ok (.dup, 1) := by decide +kernel
theorem dX9_init_109 : decode cX9_init 109 = .ok (.invokespecial 71, 3) := by decide +kernel
theorem dX9_init_112 : decode cX9_init 112 = .ok (.putfield 72, 3) := by decide +kernel
theorem dX9_init_115 : decode cX9_init 115 = .ok (.aload_n 0, 1) := by decide +kernel
theorem dX9_init_116 : decode cX9_init 116 = .ok (.iconst (-1), 1) := by decide +kernel
theorem dX9_init_117 : decode cX9_init 117 = .ok (.putfield 76, 3) := by decide +kernel
theorem dX9_init_120 : decode cX9_init 120 = .ok (.aload_n 0, 1) := by decide +kernel
theorem dX9_init_121 : decode cX9_init 121 = .ok (.iconst 0, 1) := by decide +kernel
theorem dX9_init_122 : decode cX9_init 122 = .ok (.putfield 80, 3) := by decide +kernel
theorem dX9_init_125 : decode cX9_init 125 = .ok (.return_, 1) := by decide +kernel
set_option maxRecDepth 20000 in
theorem ggX9_feed_X7_append : GoodIn wsX9_feed wsX7_append := goodIn_sub (xc (xt1 (xl (xl (xt4 (xt1 (xh)))))) (xa (xc (xt1 (xl (xl (xt4 (xt1 (xt1 (xh))))))) (xc (xt1 (xl (xl (xt4 (xt1 (xt1 (xt1 (xh)))))))) (xc (xt1 (xl (xl (xt4 (xt4 (xh)))))) (xc (xt1 (xl (xl (xt4 (xt4 (xt1 (xh))))))) (xc (xt1 (xl (xl (xt4 (xh))))) (xc (xt1 (xl (xl (xt4 (xt4 (xt1 (xt1 (xh)))))))) (xc (xt1 (xl (xl (xt4 (xt4 (xt1 (xt1 (xt1 (xh))))))))) (xn)))))))) (fun _ h => xt1 (xr (h))))) (by decide +kernel)
set_option maxRecDepth 20000 in
theorem gX9_feed_X7_append : GoodIn wsX9_feed (wsV RX9 83 RX7 yX7_append wsX7_append) := goodIn_app (goodIn_sub (xc (xt1 (xl (xl (xt1 (xh))))) (xc (xt1 (xl (xl (xt1 (xt1 (xh)))))) (xc (xt1 (xl (xl (xt1 (xt1 (xt1 (xh))))))) (xc (xt1 (xl (xl (xt4 (xh))))) (xn))))) (by decide +kernel)) ggX9_feed_X7_append
theorem dX9_feed_0 : decode cX9_feed 0 = .ok (.aload_n 0, 1) := by decide +kernel
theorem dX9_feed_1 : decode cX9_feed 1 = .ok (.getfield 10, 3) := by decide +kernel
theorem dX9_feed_4 : decode cX9_feed 4 = .ok (.iload_n 1, 1) := by decide +kernel
theorem dX9_feed_5 : decode cX9_feed 5 = .ok (.iload_n 2, 1) := by decide +kernel
theorem dX9_feed_6 : decode cX9_feed 6 = .ok (.iload_n 3, 1) := by decide +kernel
theorem dX9_feed_7 : decode cX9_feed 7 = .ok (.iload 4, 2) := by decide +kernel
theorem dX9_feed_9 : decode cX9_feed 9 = .ok (.iload 5, 2) := by decide +kernel
theorem dX9_feed_11 : decode cX9_feed 11 = .ok (.invokevirtual 83, 3) := by decide +kernel
theorem dX9_feed_14 : decode cX9_feed 14 = .ok (.ireturn, 1) := by decide +kernel
set_option maxRecDepth 20000 in
theorem ggX9_end_X7_keepFirst : GoodIn wsX9_end wsX7_keepFirst := goodIn_sub (xc (xt1 (xl (xl (xt4 (xt1 (xh)))))) (xa (xc (xt1 (xl (xl (xt4 (xt1 (xt1 (xh))))))) (xn)) (fun _ h => xt1 (xr (h))))) (by decide +kernel)
set_option maxRecDepth 20000 in
theorem gX9_end_X7_keepFirst : GoodIn wsX9_end (wsV RX9 87 RX7 yX7_keepFirst wsX7_keepFirst) := goodIn_app (goodIn_sub (xc (xt1 (xl (xl (xt1 (xh))))) (xc (xt1 (xl (xl (xt1 (xt1 (xh)))))) (xc (xt1 (xl (xl (xt1 (xt1 (xt1 (xh))))))) (xc (xt1 (xl (xl (xt4 (xh))))) (xn))))) (by decide +kernel)) ggX9_end_X7_keepFirst
theorem dX9_end_0 : decode cX9_end 0 = .ok (.aload_n 0, 1) := by decide +kernel
theorem dX9_end_1 : decode cX9_end 1 = .ok (.getfield 10, 3) := by decide +kernel
theorem dX9_end_4 : decode cX9_end 4 = .ok (.iload_n 1, 1) := by decide +kernel
theorem dX9_end_5 : decode cX9_end 5 = .ok (.invokevirtual 87, 3) := by decide +kernel
theorem dX9_end_8 : decode cX9_end 8 = .ok (.ireturn, 1) := by decide +kernel
set_option maxRecDepth 20000 in
theorem ggX9_kind_X9_needNumber : GoodIn wsX9_kind wsX9_needNumber := goodIn_sub (xc (xt1 (xl (xl (xl (xl (xt4 (xh))))))) (xa (xc (xt1 (xl (xl (xl (xl (xt4 (xt1 (xh)))))))) (xc (xt1 (xl (xl (xl (xl (xt4 (xt1 (xt1 (xh))))))))) (xn))) (fun _ h => xt1 (xl (xr (h)))))) (by decide +kernel)
set_option maxRecDepth 20000 in
theorem gX9_kind_X9_needNumber : GoodIn wsX9_kind (va_wsS RX9 91 yX9_needNumber wsX9_needNumber) := goodIn_app (goodIn_sub (xc (xt1 (xl (xl (xl (xl (xt1 (xh))))))) (xc (xt1 (xl (xl (xl (xl (xt1 (xt1 (xh)))))))) (xc (xt1 (xl (xl (xl (xl (xt1 (xt1 (xt1 (xh))))))))) (xn)))) (by decide +kernel)) ggX9_kind_X9_needNumber
set_option maxRecDepth 20000 in
theorem ggX9_kind_X9_needPlace : GoodIn wsX9_kind wsX9_needPlace := goodIn_sub (xc (xt1 (xl (xl (xl (xl (xt4 (xt4 (xt1 (xh))))))))) (xa (xc (xt1 (xl (xl (xl (xl (xt4 (xt4 (xt1 (xt1 (xh)))))))))) (xc (xt1 (xl (xl (xl (xl (xt4 (xt4 (xt1 (xt1 (xt1 (xh))))))))))) (xn))) (fun _ h => xt1 (xr (h))))) (by decide +kernel)
set_option maxRecDepth 20000 in
theorem gX9_kind_X9_needPlace : GoodIn wsX9_kind (va_wsS RX9 98 yX9_needPlace wsX9_needPlace) := goodIn_app (goodIn_sub (xc (xt1 (xl (xl (xl (xl (xt4 (xt1 (xt1 (xt1 (xh)))))))))) (xc (xt1 (xl (xl (xl (xl (xt4 (xt4 (xh)))))))) (xc (xt1 (xl (xl (xl (xl (xt1 (xt1 (xt1 (xh))))))))) (xn)))) (by decide +kernel)) ggX9_kind_X9_needPlace
set_option maxRecDepth 20000 in
theorem ggX9_kind_X2_add : GoodIn wsX9_kind wsX2_add := goodIn_sub (xc (xt1 (xl (xl (xl (xl (xt16 (xh))))))) (xa (xc (xt1 (xl (xl (xl (xl (xt16 (xt1 (xh)))))))) (xc (xt1 (xl (xl (xl (xl (xt16 (xt1 (xt1 (xh))))))))) (xc (xt1 (xl (xl (xl (xl (xt16 (xt1 (xt1 (xt1 (xh)))))))))) (xc (xt1 (xl (xl (xl (xl (xt16 (xt4 (xh)))))))) (xn))))) (fun _ h => xt1 (xl (xl (xr (h))))))) (by decide +kernel)
set_option maxRecDepth 20000 in
theorem gX9_kind_X2_add : GoodIn wsX9_kind (wsV RX9 102 RX2 yX2_add wsX2_add) := goodIn_app (goodIn_sub (xc (xt1 (xl (xl (xl (xl (xt4 (xt4 (xt4 (xh))))))))) (xc (xt1 (xl (xl (xl (xl (xt4 (xt4 (xt4 (xt1 (xh)))))))))) (xc (xt1 (xl (xl (xl (xl (xt4 (xt4 (xt4 (xt1 (xt1 (xh))))))))))) (xc (xt1 (xl (xl (xl (xl (xt4 (xt4 (xt4 (xt1 (xt1 (xt1 (xh)))))))))))) (xn))))) (by decide +kernel)) ggX9_kind_X2_add
theorem dX9_kind_0 : decode cX9_kind 0 = .ok (.iload_n 1, 1) := by decide +kernel
theorem dX9_kind_1 : decode cX9_kind 1 = .ok (.iconst 1, 1) := by decide +kernel
theorem dX9_kind_2 : decode cX9_kind 2 = .ok (.bipush 100, 2) := by decide +kernel
theorem dX9_kind_4 : decode cX9_kind 4 = .ok (.invokestatic 91, 3) := by decide +kernel
theorem dX9_kind_7 : decode cX9_kind 7 = .ok (.iload_n 2, 1) := by decide +kernel
theorem dX9_kind_8 : decode cX9_kind 8 = .ok (.iconst 1, 1) := by decide +kernel
theorem dX9_kind_9 : decode cX9_kind 9 = .ok (.sipush 200, 3) := by decide +kernel
theorem dX9_kind_12 : decode cX9_kind 12 = .ok (.invokestatic 91, 3) := by decide +kernel
theorem dX9_kind_15 : decode cX9_kind 15 = .ok (.iload_n 3, 1) := by decide +kernel
theorem dX9_kind_16 : decode cX9_kind 16 = .ok (.iconst 0, 1) := by decide +kernel
theorem dX9_kind_17 : decode cX9_kind 17 = .ok (.sipush 5000, 3) := by decide +kernel
theorem dX9_kind_20 : decode cX9_kind 20 = .ok (.invokestatic 91, 3) := by decide +kernel
theorem dX9_kind_23 : decode cX9_kind 23 = .ok (.aload_n 0, 1) := by decide +kernel
theorem dX9_kind_24 : decode cX9_kind 24 = .ok (.getfield 26, 3) := by decide +kernel
theorem dX9_kind_27 : decode cX9_kind 27 = .ok (.getfield 95, 3) := by decide +kernel
theorem dX9_kind_30 : decode cX9_kind 30 = .ok (.bipush 8, 2) := by decide +kernel
theorem dX9_kind_32 : decode cX9_kind 32 = .ok (.invokestatic 98, 3) := by decide +kernel
theorem dX9_kind_35 : decode cX9_kind 35 = .ok (.aload_n 0, 1) := by decide +kernel
theorem dX9_kind_36 : decode cX9_kind 36 = .ok (.getfield 26, 3) := by decide +kernel
theorem dX9_kind_39 : decode cX9_kind 39 = .ok (.iload_n 1, 1) := by decide +kernel
theorem dX9_kind_40 : decode cX9_kind 40 = .ok (.iload_n 2, 1) := by decide +kernel
theorem dX9_kind_41 : decode cX9_kind 41 = .ok (.iload_n 3, 1) := by decide +kernel
theorem dX9_kind_42 : decode cX9_kind 42 = .ok (.invokevirtual 102, 3) := by decide +kernel
theorem dX9_kind_45 : decode cX9_kind 45 = .ok (.ireturn, 1) := by decide +kernel
set_option maxRecDepth 20000 in
theorem ggX9_fire_X9_needIndex : GoodIn wsX9_fire wsX9_needIndex := goodIn_sub (xc (xt1 (xl (xl (xl (xl (xl (xl (xl (xt4 (xt1 (xh))))))))))) (xa (xc (xt1 (xl (xl (xl (xl (xl (xl (xl (xt4 (xt1 (xt1 (xh)))))))))))) (xc (xt1 (xl (xl (xl (xl (xl (xl (xl (xt4 (xt1 (xt1 (xt1 (xh))))))))))))) (xn))) (fun _ h => xt1 (xl (xl (xr (h))))))) (by decide +kernel)
set_option maxRecDepth 20000 in
theorem gX9_fire_X9_needIndex : GoodIn wsX9_fire (va_wsS RX9 106 yX9_needIndex wsX9_needIndex) := goodIn_app (goodIn_sub (xc (xt1 (xl (xl (xl (xl (xl (xl (xl (xt1 (xt1 (xh))))))))))) (xc (xt1 (xl (xl (xl (xl (xl (xl (xl (xt1 (xt1 (xt1 (xh)))))))))))) (xc (xt1 (xl (xl (xl (xl (xl (xl (xl (xt4 (xh)))))))))) (xn)))) (by decide +kernel)) ggX9_fire_X9_needIndex
set_option maxRecDepth 20000 in
theorem ggX9_fire_X9_needNumber : GoodIn wsX9_fire wsX9_needNumber := goodIn_sub (xc (xt1 (xl (xl (xl (xl (xl (xl (xl (xt4 (xt4 (xt1 (xt1 (xh))))))))))))) (xa (xc (xt1 (xl (xl (xl (xl (xl (xl (xl (xt4 (xt4 (xt1 (xt1 (xt1 (xh)))))))))))))) (xc (xt1 (xl (xl (xl (xl (xl (xl (xl (xt4 (xt4 (xt4 (xh)))))))))))) (xn))) (fun _ h => xt1 (xl (xr (h)))))) (by decide +kernel)
set_option maxRecDepth 20000 in
theorem gX9_fire_X9_needNumber : GoodIn wsX9_fire (va_wsS RX9 91 yX9_needNumber wsX9_needNumber) := goodIn_app (goodIn_sub (xc (xt1 (xl (xl (xl (xl (xl (xl (xl (xt4 (xt4 (xh))))))))))) (xc (xt1 (xl (xl (xl (xl (xl (xl (xl (xt4 (xt4 (xt1 (xh)))))))))))) (xc (xt1 (xl (xl (xl (xl (xl (xl (xl (xt4 (xh)))))))))) (xn)))) (by decide +kernel)) ggX9_fire_X9_needNumber
set_option maxRecDepth 20000 in
theorem ggX9_fire_X9_needPlace : GoodIn wsX9_fire wsX9_needPlace := goodIn_sub (xc (xt1 (xl (xl (xl (xl (xl (xl (xl (xt4 (xt4 (xt4 (xt1 (xt1 (xt1 (xh))))))))))))))) (xa (xc (xt1 (xl (xl (xl (xl (xl (xl (xl (xt16 (xh)))))))))) (xc (xt1 (xl (xl (xl (xl (xl (xl (xl (xt16 (xt1 (xh))))))))))) (xn))) (fun _ h => xt1 (xr (h))))) (by decide +kernel)
set_option maxRecDepth 20000 in
theorem gX9_fire_X9_needPlace : GoodIn wsX9_fire (va_wsS RX9 98 yX9_needPlace wsX9_needPlace) := goodIn_app (goodIn_sub (xc (xt1 (xl (xl (xl (xl (xl (xl (xl (xt4 (xt4 (xt4 (xt1 (xh))))))))))))) (xc (xt1 (xl (xl (xl (xl (xl (xl (xl (xt4 (xt4 (xt4 (xt1 (xt1 (xh)))))))))))))) (xc (xt1 (xl (xl (xl (xl (xl (xl (xl (xt4 (xh)))))))))) (xn)))) (by decide +kernel)) ggX9_fire_X9_needPlace
set_option maxRecDepth 20000 in
theorem ggX9_fire_X1_add : GoodIn wsX9_fire wsX1_add := goodIn_sub (xc (xt1 (xl (xl (xl (xl (xl (xl (xl (xt16 (xt4 (xt1 (xt1 (xh))))))))))))) (xa (xc (xt1 (xl (xl (xl (xl (xl (xl (xl (xt16 (xt4 (xt1 (xt1 (xt1 (xh)))))))))))))) (xc (xt1 (xl (xl (xl (xl (xl (xl (xr (xh))))))))) (xc (xt1 (xl (xl (xl (xl (xl (xl (xr (xt1 (xh)))))))))) (xc (xt1 (xl (xl (xl (xl (xl (xl (xr (xt1 (xt1 (xh))))))))))) (xc (xt1 (xl (xl (xl (xl (xl (xl (xr (xt1 (xt1 (xt1 (xh)))))))))))) (xc (xt1 (xl (xl (xl (xl (xl (xl (xr (xt4 (xh)))))))))) (xc (xt1 (xl (xl (xl (xl (xl (xl (xr (xt4 (xt1 (xh))))))))))) (xn)))))))) (fun _ h => xt1 (xl (xl (xl (xr (h)))))))) (by decide +kernel)
set_option maxRecDepth 20000 in
theorem gX9_fire_X1_add : GoodIn wsX9_fire (wsV RX9 110 RX1 yX1_add wsX1_add) := goodIn_app (goodIn_sub (xc (xt1 (xl (xl (xl (xl (xl (xl (xl (xt16 (xt1 (xt1 (xh)))))))))))) (xc (xt1 (xl (xl (xl (xl (xl (xl (xl (xt16 (xt1 (xt1 (xt1 (xh))))))))))))) (xc (xt1 (xl (xl (xl (xl (xl (xl (xl (xt16 (xt4 (xh))))))))))) (xc (xt1 (xl (xl (xl (xl (xl (xl (xl (xt16 (xt4 (xt1 (xh)))))))))))) (xn))))) (by decide +kernel)) ggX9_fire_X1_add
theorem dX9_fire_0 : decode cX9_fire 0 = .ok (.iload_n 1, 1) := by decide +kernel
theorem dX9_fire_1 : decode cX9_fire 1 = .ok (.aload_n 0, 1) := by decide +kernel
theorem dX9_fire_2 : decode cX9_fire 2 = .ok (.getfield 26, 3) := by decide +kernel
theorem dX9_fire_5 : decode cX9_fire 5 = .ok (.getfield 95, 3) := by decide +kernel
theorem dX9_fire_8 : decode cX9_fire 8 = .ok (.invokestatic 106, 3) := by decide +kernel
theorem dX9_fire_11 : decode cX9_fire 11 = .ok (.iload_n 2, 1) := by decide +kernel
theorem dX9_fire_12 : decode cX9_fire 12 = .ok (.iconst 0, 1) := by decide +kernel
theorem dX9_fire_13 : decode cX9_fire 13 = .ok (.bipush 15, 2) := by decide +kernel
theorem dX9_fire_15 : decode cX9_fire 15 = .ok (.invokestatic 91, 3) := by decide +kernel
theorem dX9_fire_18 : decode cX9_fire 18 = .ok (.iload_n 3, 1) := by decide +kernel
theorem dX9_fire_19 : decode cX9_fire 19 = .ok (.iconst 1, 1) := by decide +kernel
theorem dX9_fire_20 : decode cX9_fire 20 = .ok (.sipush 300, 3) := by decide +kernel
theorem dX9_fire_23 : decode cX9_fire 23 = .ok (.invokestatic 91, 3) := by decide +kernel
theorem dX9_fire_26 : decode cX9_fire 26 = .ok (.aload_n 0, 1) := by decide +kernel
theorem dX9_fire_27 : decode cX9_fire 27 = .ok (.getfield 35, 3) := by decide +kernel
theorem dX9_fire_30 : decode cX9_fire 30 = .ok (.getfield 109, 3) := by decide +kernel
theorem dX9_fire_33 : decode cX9_fire 33 = .ok (.bipush 60, 2) := by decide +kernel
theorem dX9_fire_35 : decode cX9_fire 35 = .ok (.invokestatic 98, 3) := by decide +kernel
theorem dX9_fire_38 : decode cX9_fire 38 = .ok (.aload_n 0, 1) := by decide +kernel
theorem dX9_fire_39 : decode cX9_fire 39 = .ok (.getfield 35, 3) := by decide +kernel
theorem dX9_fire_42 : decode cX9_fire 42 = .ok (.iload_n 1, 1) := by decide +kernel
theorem dX9_fire_43 : decode cX9_fire 43 = .ok (.iload_n 2, 1) := by decide +kernel
theorem dX9_fire_44 : decode cX9_fire 44 = .ok (.iload_n 3, 1) := by decide +kernel
theorem dX9_fire_45 : decode cX9_fire 45 = .ok (.invokevirtual 110, 3) := by decide +kernel
theorem dX9_fire_48 : decode cX9_fire 48 = .ok (.ireturn, 1) := by decide +kernel
set_option maxRecDepth 20000 in
theorem ggX9_fill_X9_needIndex : GoodIn wsX9_fill wsX9_needIndex := goodIn_sub (xc (xt1 (xl (xl (xl (xl (xl (xt4 (xh)))))))) (xa (xc (xt1 (xl (xl (xl (xl (xl (xt4 (xt1 (xh))))))))) (xc (xt1 (xl (xl (xl (xl (xl (xt4 (xt1 (xt1 (xh)))))))))) (xn))) (fun _ h => xt1 (xl (xr (h)))))) (by decide +kernel)
set_option maxRecDepth 20000 in
theorem gX9_fill_X9_needIndex : GoodIn wsX9_fill (va_wsS RX9 106 yX9_needIndex wsX9_needIndex) := goodIn_app (goodIn_sub (xc (xt1 (xl (xl (xl (xl (xl (xt1 (xh)))))))) (xc (xt1 (xl (xl (xl (xl (xl (xt1 (xt1 (xh))))))))) (xc (xt1 (xl (xl (xl (xl (xl (xt1 (xt1 (xt1 (xh)))))))))) (xn)))) (by decide +kernel)) ggX9_fill_X9_needIndex
set_option maxRecDepth 20000 in
theorem ggX9_fill_X9_needNumber : GoodIn wsX9_fill wsX9_needNumber := goodIn_sub (xc (xt1 (xl (xl (xl (xl (xl (xt4 (xt4 (xt1 (xh)))))))))) (xa (xc (xt1 (xl (xl (xl (xl (xl (xt4 (xt4 (xt1 (xt1 (xh))))))))))) (xc (xt1 (xl (xl (xl (xl (xl (xt4 (xt4 (xt1 (xt1 (xt1 (xh)))))))))))) (xn))) (fun _ h => xt1 (xr (h))))) (by decide +kernel)
set_option maxRecDepth 20000 in
theorem gX9_fill_X9_needNumber : GoodIn wsX9_fill (va_wsS RX9 91 yX9_needNumber wsX9_needNumber) := goodIn_app (goodIn_sub (xc (xt1 (xl (xl (xl (xl (xl (xt4 (xt1 (xt1 (xt1 (xh))))))))))) (xc (xt1 (xl (xl (xl (xl (xl (xt4 (xt4 (xh))))))))) (xc (xt1 (xl (xl (xl (xl (xl (xt1 (xt1 (xt1 (xh)))))))))) (xn)))) (by decide +kernel)) ggX9_fill_X9_needNumber
set_option maxRecDepth 20000 in
theorem ggX9_fill_X1_pour : GoodIn wsX9_fill wsX1_pour := goodIn_sub (xc (xt1 (xl (xl (xl (xl (xl (xt16 (xh)))))))) (xa (xa (xc (xt1 (xl (xl (xl (xl (xl (xt16 (xt1 (xh))))))))) (xc (xt1 (xl (xl (xl (xl (xl (xt16 (xt1 (xt1 (xh)))))))))) (xc (xt1 (xl (xl (xl (xl (xl (xt16 (xt1 (xt1 (xt1 (xh))))))))))) (xc (xt1 (xl (xl (xl (xl (xl (xt16 (xt4 (xh))))))))) (xn))))) (fun _ h => xt1 (xl (xl (xl (xr (h))))))) (fun _ h => xt1 (xl (xl (xr (h))))))) (by decide +kernel)
set_option maxRecDepth 20000 in
theorem gX9_fill_X1_pour : GoodIn wsX9_fill (wsV RX9 111 RX1 yX1_pour wsX1_pour) := goodIn_app (goodIn_sub (xc (xt1 (xl (xl (xl (xl (xl (xt4 (xt4 (xt4 (xh)))))))))) (xc (xt1 (xl (xl (xl (xl (xl (xt4 (xt4 (xt4 (xt1 (xh))))))))))) (xc (xt1 (xl (xl (xl (xl (xl (xt4 (xt4 (xt4 (xt1 (xt1 (xh)))))))))))) (xc (xt1 (xl (xl (xl (xl (xl (xt4 (xt4 (xt4 (xt1 (xt1 (xt1 (xh))))))))))))) (xn))))) (by decide +kernel)) ggX9_fill_X1_pour
theorem dX9_fill_0 : decode cX9_fill 0 = .ok (.iload_n 1, 1) := by decide +kernel
theorem dX9_fill_1 : decode cX9_fill 1 = .ok (.aload_n 0, 1) := by decide +kernel
theorem dX9_fill_2 : decode cX9_fill 2 = .ok (.getfield 35, 3) := by decide +kernel
theorem dX9_fill_5 : decode cX9_fill 5 = .ok (.getfield 109, 3) := by decide +kernel
theorem dX9_fill_8 : decode cX9_fill 8 = .ok (.invokestatic 106, 3) := by decide +kernel
theorem dX9_fill_11 : decode cX9_fill 11 = .ok (.iload_n 2, 1) := by decide +kernel
theorem dX9_fill_12 : decode cX9_fill 12 = .ok (.iconst 1, 1) := by decide +kernel
theorem dX9_fill_13 : decode cX9_fill 13 = .ok (.sipush 200, 3) := by decide +kernel
theorem dX9_fill_16 : decode cX9_fill 16 = .ok (.invokestatic 91, 3) := by decide +kernel
theorem dX9_fill_19 : decode cX9_fill 19 = .ok (.aload_n 0, 1) := by decide +kernel
theorem dX9_fill_20 : decode cX9_fill 20 = .ok (.getfield 35, 3) := by decide +kernel
theorem dX9_fill_23 : decode cX9_fill 23 = .ok (.iload_n 1, 1) := by decide +kernel
theorem dX9_fill_24 : decode cX9_fill 24 = .ok (.iload_n 2, 1) := by decide +kernel
theorem dX9_fill_25 : decode cX9_fill 25 = .ok (.invokevirtual 111, 3) := by decide +kernel
theorem dX9_fill_28 : decode cX9_fill 28 = .ok (.ireturn, 1) := by decide +kernel
set_option maxRecDepth 20000 in
theorem ggX9_ship_X9_needPlace : GoodIn wsX9_ship wsX9_needPlace := goodIn_sub (xc (xt1 (xl (xl (xl (xt4 (xh)))))) (xa (xc (xt1 (xl (xl (xl (xt4 (xt1 (xh))))))) (xc (xt1 (xl (xl (xl (xt4 (xt1 (xt1 (xh)))))))) (xn))) (fun _ h => xt1 (xr (h))))) (by decide +kernel)
set_option maxRecDepth 20000 in
theorem gX9_ship_X9_needPlace : GoodIn wsX9_ship (va_wsS RX9 98 yX9_needPlace wsX9_needPlace) := goodIn_app (goodIn_sub (xc (xt1 (xl (xl (xl (xt1 (xh)))))) (xc (xt1 (xl (xl (xl (xt1 (xt1 (xh))))))) (xc (xt1 (xl (xl (xl (xt1 (xt1 (xt1 (xh)))))))) (xn)))) (by decide +kernel)) ggX9_ship_X9_needPlace
set_option maxRecDepth 20000 in
theorem ggX9_ship_X0_add : GoodIn wsX9_ship wsX0_add := goodIn_sub (xc (xt1 (xl (xl (xl (xt4 (xt4 (xt1 (xt1 (xt1 (xh)))))))))) (xa (xc (xt1 (xl (xl (xl (xt4 (xt4 (xt4 (xh)))))))) (xn)) (fun _ h => xt1 (xl (xr (h)))))) (by decide +kernel)
set_option maxRecDepth 20000 in
theorem gX9_ship_X0_add : GoodIn wsX9_ship (wsV RX9 116 RX0 yX0_add wsX0_add) := goodIn_app (goodIn_sub (xc (xt1 (xl (xl (xl (xt4 (xt1 (xt1 (xt1 (xh))))))))) (xc (xt1 (xl (xl (xl (xt4 (xt4 (xh))))))) (xc (xt1 (xl (xl (xl (xt4 (xt4 (xt1 (xh)))))))) (xc (xt1 (xl (xl (xl (xt4 (xt4 (xt1 (xt1 (xh))))))))) (xn))))) (by decide +kernel)) ggX9_ship_X0_add
theorem dX9_ship_0 : decode cX9_ship 0 = .ok (.aload_n 0, 1) := by decide +kernel
theorem dX9_ship_1 : decode cX9_ship 1 = .ok (.getfield 44, 3) := by decide +kernel
theorem dX9_ship_4 : decode cX9_ship 4 = .ok (.getfield 115, 3) := by decide +kernel
theorem dX9_ship_7 : decode cX9_ship 7 = .ok (.iconst 4, 1) := by decide +kernel
theorem dX9_ship_8 : decode cX9_ship 8 = .ok (.invokestatic 98, 3) := by decide +kernel
theorem dX9_ship_11 : decode cX9_ship 11 = .ok (.aload_n 0, 1) := by decide +kernel
theorem dX9_ship_12 : decode cX9_ship 12 = .ok (.getfield 44, 3) := by decide +kernel
theorem dX9_ship_15 : decode cX9_ship 15 = .ok (.invokevirtual 116, 3) := by decide +kernel
theorem dX9_ship_18 : decode cX9_ship 18 = .ok (.ireturn, 1) := by decide +kernel
set_option maxRecDepth 20000 in
theorem ggX9_load_X9_needIndex : GoodIn wsX9_load wsX9_needIndex := goodIn_sub (xc (xt1 (xl (xl (xl (xl (xl (xl (xt4 (xt1 (xh)))))))))) (xa (xc (xt1 (xl (xl (xl (xl (xl (xl (xt4 (xt1 (xt1 (xh))))))))))) (xc (xt1 (xl (xl (xl (xl (xl (xl (xt4 (xt1 (xt1 (xt1 (xh)))))))))))) (xn))) (fun _ h => xt1 (xr (h))))) (by decide +kernel)
set_option maxRecDepth 20000 in
theorem gX9_load_X9_needIndex : GoodIn wsX9_load (va_wsS RX9 106 yX9_needIndex wsX9_needIndex) := goodIn_app (goodIn_sub (xc (xt1 (xl (xl (xl (xl (xl (xl (xt1 (xt1 (xh)))))))))) (xc (xt1 (xl (xl (xl (xl (xl (xl (xt1 (xt1 (xt1 (xh))))))))))) (xc (xt1 (xl (xl (xl (xl (xl (xl (xt4 (xh))))))))) (xn)))) (by decide +kernel)) ggX9_load_X9_needIndex
set_option maxRecDepth 20000 in
theorem ggX9_load_X9_needHold : GoodIn wsX9_load wsX9_needHold := goodIn_sub (xc (xt1 (xl (xl (xl (xl (xl (xl (xt4 (xt4 (xt1 (xt1 (xt1 (xh))))))))))))) (xa (xa (xa (xc (xt1 (xl (xl (xl (xl (xl (xl (xt1 (xh))))))))) (xc (xt1 (xl (xl (xl (xl (xl (xl (xt1 (xt1 (xh)))))))))) (xc (xt1 (xl (xl (xl (xl (xl (xl (xt1 (xt1 (xt1 (xh))))))))))) (xc (xt1 (xl (xl (xl (xl (xl (xl (xt4 (xh))))))))) (xc (xt1 (xl (xl (xl (xl (xl (xl (xt4 (xt1 (xh)))))))))) (xc (xt1 (xl (xl (xl (xl (xl (xl (xt4 (xt1 (xt1 (xh))))))))))) (xc (xt1 (xl (xl (xl (xl (xl (xl (xt4 (xt1 (xt1 (xt1 (xh)))))))))))) (xn)))))))) (fun _ h => xt1 (xl (xl (xl (xl (xr (h)))))))) (fun _ h => xt1 (xl (xl (xr (h)))))) (fun _ h => xt1 (xr (h))))) (by decide +kernel)
set_option maxRecDepth 20000 in
theorem gX9_load_X9_needHold : GoodIn wsX9_load (wsV RX9 119 RX9 yX9_needHold wsX9_needHold) := goodIn_app (goodIn_sub (xc (xt1 (xl (xl (xl (xl (xl (xl (xt4 (xt4 (xh)))))))))) (xc (xt1 (xl (xl (xl (xl (xl (xl (xt4 (xt4 (xt1 (xh))))))))))) (xc (xt1 (xl (xl (xl (xl (xl (xl (xt4 (xt4 (xt1 (xt1 (xh)))))))))))) (xc (xt1 (xl (xl (xl (xl (xl (xl (xt4 (xh))))))))) (xn))))) (by decide +kernel)) ggX9_load_X9_needHold
set_option maxRecDepth 20000 in
theorem ggX9_load_X0_pileOf : GoodIn wsX9_load wsX0_pileOf := goodIn_sub (xc (xt1 (xl (xl (xl (xl (xl (xl (xt4 (xt4 (xt4 (xt1 (xt1 (xt1 (xh)))))))))))))) (xn)) (by decide +kernel)
set_option maxRecDepth 20000 in
theorem gX9_load_X0_pileOf : GoodIn wsX9_load (va_wsS RX9 122 yX0_pileOf wsX0_pileOf) := goodIn_app (goodIn_sub (xc (xt1 (xl (xl (xl (xl (xl (xl (xt4 (xt4 (xt4 (xh))))))))))) (xc (xt1 (xl (xl (xl (xl (xl (xl (xt4 (xt4 (xt4 (xt1 (xh)))))))))))) (xc (xt1 (xl (xl (xl (xl (xl (xl (xt4 (xt4 (xt4 (xt1 (xt1 (xh))))))))))))) (xn)))) (by decide +kernel)) ggX9_load_X0_pileOf
set_option maxRecDepth 20000 in
theorem ggX9_load_X0_put : GoodIn wsX9_load wsX0_put := goodIn_sub (xc (xt1 (xl (xl (xl (xl (xl (xl (xt16 (xt1 (xt1 (xt1 (xh)))))))))))) (xa (xa (xa (xa (xc (xt1 (xl (xl (xl (xl (xl (xl (xt16 (xt4 (xh)))))))))) (xc (xt1 (xl (xl (xl (xl (xl (xl (xt16 (xt4 (xt1 (xh))))))))))) (xc (xt1 (xl (xl (xl (xl (xl (xl (xt16 (xt4 (xt1 (xt1 (xh)))))))))))) (xc (xt1 (xl (xl (xl (xl (xl (xl (xt16 (xt4 (xt1 (xt1 (xt1 (xh))))))))))))) (xc (xt1 (xl (xl (xl (xl (xl (xr (xl (xh))))))))) (xc (xt1 (xl (xl (xl (xl (xl (xl (xt4 (xt4 (xt4 (xt1 (xt1 (xh))))))))))))) (xc (xt1 (xl (xl (xl (xl (xl (xr (xl (xt1 (xh)))))))))) (xc (xt1 (xl (xl (xl (xl (xl (xr (xl (xt1 (xt1 (xh))))))))))) (xc (xt1 (xl (xl (xl (xl (xl (xr (xl (xt1 (xt1 (xt1 (xh)))))))))))) (xc (xt1 (xl (xl (xl (xl (xl (xr (xl (xt4 (xh)))))))))) (xc (xt1 (xl (xl (xl (xl (xl (xr (xl (xt4 (xt1 (xh))))))))))) (xc (xt1 (xl (xl (xl (xl (xl (xr (xl (xt4 (xt1 (xt1 (xh)))))))))))) (xc (xt1 (xl (xl (xl (xl (xl (xr (xl (xt4 (xt1 (xt1 (xt1 (xh))))))))))))) (xc (xt1 (xl (xl (xl (xl (xl (xr (xl (xt4 (xt4 (xh))))))))))) (xc (xt1 (xl (xl (xl (xl (xl (xr (xl (xt4 (xt4 (xt1 (xh)))))))))))) (xc (xt1 (xl (xl (xl (xl (xl (xr (xl (xt4 (xt4 (xt1 (xt1 (xh))))))))))))) (xc (xt1 (xl (xl (xl (xl (xl (xr (xl (xt4 (xt4 (xt1 (xt1 (xt1 (xh)))))))))))))) (xc (xt1 (xl (xl (xl (xl (xl (xr (xl (xt4 (xt4 (xt4 (xh)))))))))))) (xc (xt1 (xl (xl (xl (xl (xl (xr (xl (xt4 (xt4 (xt4 (xt1 (xh))))))))))))) (xc (xt1 (xl (xl (xl (xl (xl (xr (xl (xt4 (xt4 (xt4 (xt1 (xt1 (xh)))))))))))))) (xc (xt1 (xl (xl (xl (xl (xl (xr (xl (xt4 (xt4 (xt4 (xt1 (xt1 (xt1 (xh))))))))))))))) (xc (xt1 (xl (xl (xl (xl (xl (xr (xl (xt16 (xh)))))))))) (xc (xt1 (xl (xl (xl (xl (xl (xr (xl (xt16 (xt1 (xh))))))))))) (xc (xt1 (xl (xl (xl (xl (xl (xr (xl (xt16 (xt1 (xt1 (xh)))))))))))) (xn))))))))))))))))))))))))) (xc (xt1 (xl (xl (xl (xl (xl (xr (xl (xt16 (xt1 (xt1 (xt1 (xh))))))))))))) (xc (xt1 (xl (xl (xl (xl (xl (xr (xl (xt16 (xt4 (xh))))))))))) (xc (xt1 (xl (xl (xl (xl (xl (xr (xl (xt16 (xt4 (xt1 (xh)))))))))))) (xc (xt1 (xl (xl (xl (xl (xl (xr (xl (xt16 (xt4 (xt1 (xt1 (xh))))))))))))) (xc (xt1 (xl (xl (xl (xl (xl (xr (xl (xt16 (xt4 (xt1 (xt1 (xt1 (xh)))))))))))))) (xc (xt1 (xl (xl (xl (xl (xl (xr (xr (xh))))))))) (xn)))))))) (fun _ h => xt1 (xl (xl (xr (h)))))) (fun _ h => xt1 (xl (xl (xl (xr (h))))))) (fun _ h => xt1 (xl (xr (h)))))) (by decide +kernel)
set_option maxRecDepth 20000 in
theorem gX9_load_X0_put : GoodIn wsX9_load (wsV RX9 125 RX0 yX0_put wsX0_put) := goodIn_app (goodIn_sub (xc (xt1 (xl (xl (xl (xl (xl (xl (xt16 (xh))))))))) (xc (xt1 (xl (xl (xl (xl (xl (xl (xt16 (xt1 (xh)))))))))) (xc (xt1 (xl (xl (xl (xl (xl (xl (xt16 (xt1 (xt1 (xh))))))))))) (xc (xt1 (xl (xl (xl (xl (xl (xl (xt4 (xt4 (xt4 (xt1 (xt1 (xh))))))))))))) (xn))))) (by decide +kernel)) ggX9_load_X0_put
theorem dX9_load_0 : decode cX9_load 0 = .ok (.iload_n 1, 1) := by decide +kernel
theorem dX9_load_1 : decode cX9_load 1 = .ok (.aload_n 0, 1) := by decide +kernel
theorem dX9_load_2 : decode cX9_load 2 = .ok (.getfield 35, 3) := by decide +kernel
theorem dX9_load_5 : decode cX9_load 5 = .ok (.getfield 109, 3) := by decide +kernel
theorem dX9_load_8 : decode cX9_load 8 = .ok (.invokestatic 106, 3) := by decide +kernel
theorem dX9_load_11 : decode cX9_load 11 = .ok (.aload_n 0, 1) := by decide +kernel
theorem dX9_load_12 : decode cX9_load 12 = .ok (.iload_n 2, 1) := by decide +kernel
theorem dX9_load_13 : decode cX9_load 13 = .ok (.iload_n 3, 1) := by decide +kernel
theorem dX9_load_14 : decode cX9_load 14 = .ok (.invokevirtual 119, 3) := by decide +kernel
theorem dX9_load_17 : decode cX9_load 17 = .ok (.aload_n 0, 1) := by decide +kernel
theorem dX9_load_18 : decode cX9_load 18 = .ok (.getfield 44, 3) := by decide +kernel
theorem dX9_load_21 : decode cX9_load 21 = .ok (.iload_n 1, 1) := by decide +kernel
theorem dX9_load_22 : decode cX9_load 22 = .ok (.iload_n 2, 1) := by decide +kernel
theorem dX9_load_23 : decode cX9_load 23 = .ok (.iload_n 3, 1) := by decide +kernel
theorem dX9_load_24 : decode cX9_load 24 = .ok (.invokestatic 122, 3) := by decide +kernel
theorem dX9_load_27 : decode cX9_load 27 = .ok (.invokevirtual 125, 3) := by decide +kernel
theorem dX9_load_30 : decode cX9_load 30 = .ok (.ireturn, 1) := by decide +kernel
set_option maxRecDepth 20000 in
theorem ggX9_land_X9_needHold : GoodIn wsX9_land wsX9_needHold := goodIn_sub (xc (xt1 (xl (xl (xl (xl (xl (xt4 (xt1 (xh))))))))) (xa (xa (xa (xc (xt1 (xl (xl (xl (xl (xl (xh))))))) (xc (xt1 (xl (xl (xl (xl (xl (xt4 (xt1 (xt1 (xh)))))))))) (xc (xt1 (xl (xl (xl (xl (xl (xt4 (xt1 (xt1 (xt1 (xh))))))))))) (xc (xt1 (xl (xl (xl (xl (xl (xt4 (xh)))))))) (xc (xt1 (xl (xl (xl (xl (xl (xt4 (xt4 (xh))))))))) (xc (xt1 (xl (xl (xl (xl (xl (xt4 (xt4 (xt1 (xh)))))))))) (xc (xt1 (xl (xl (xl (xl (xl (xt4 (xt4 (xt1 (xt1 (xh))))))))))) (xn)))))))) (fun _ h => xt1 (xl (xl (xl (xr (h))))))) (fun _ h => xt1 (xl (xl (xr (h)))))) (fun _ h => xt1 (xr (h))))) (by decide +kernel)
set_option maxRecDepth 20000 in
theorem gX9_land_X9_needHold : GoodIn wsX9_land (wsV RX9 119 RX9 yX9_needHold wsX9_needHold) := goodIn_app (goodIn_sub (xc (xt1 (xl (xl (xl (xl (xl (xt1 (xh)))))))) (xc (xt1 (xl (xl (xl (xl (xl (xt1 (xt1 (xh))))))))) (xc (xt1 (xl (xl (xl (xl (xl (xt1 (xt1 (xt1 (xh)))))))))) (xc (xt1 (xl (xl (xl (xl (xl (xt4 (xh)))))))) (xn))))) (by decide +kernel)) ggX9_land_X9_needHold
set_option maxRecDepth 20000 in
theorem ggX9_land_X0_pileOf : GoodIn wsX9_land wsX0_pileOf := goodIn_sub (xc (xt1 (xl (xl (xl (xl (xl (xt4 (xt4 (xt4 (xt1 (xt1 (xh)))))))))))) (xn)) (by decide +kernel)
set_option maxRecDepth 20000 in
theorem gX9_land_X0_pileOf : GoodIn wsX9_land (va_wsS RX9 122 yX0_pileOf wsX0_pileOf) := goodIn_app (goodIn_sub (xc (xt1 (xl (xl (xl (xl (xl (xt4 (xt4 (xt1 (xt1 (xt1 (xh)))))))))))) (xc (xt1 (xl (xl (xl (xl (xl (xt4 (xt4 (xt4 (xh)))))))))) (xc (xt1 (xl (xl (xl (xl (xl (xt4 (xt4 (xt4 (xt1 (xh))))))))))) (xn)))) (by decide +kernel)) ggX9_land_X0_pileOf
set_option maxRecDepth 20000 in
theorem ggX9_land_X0_takeTop : GoodIn wsX9_land wsX0_takeTop := goodIn_sub (xc (xt1 (xl (xl (xl (xl (xl (xt16 (xt1 (xt1 (xh)))))))))) (xa (xa (xc (xt1 (xl (xl (xl (xl (xl (xt16 (xt1 (xt1 (xt1 (xh))))))))))) (xc (xt1 (xl (xl (xl (xl (xl (xt16 (xt4 (xh))))))))) (xc (xt1 (xl (xl (xl (xl (xl (xt16 (xt4 (xt1 (xh)))))))))) (xc (xt1 (xl (xl (xl (xl (xl (xt16 (xt4 (xt1 (xt1 (xh))))))))))) (xc (xt1 (xl (xl (xl (xl (xl (xt16 (xt4 (xt1 (xt1 (xt1 (xh)))))))))))) (xc (xt1 (xl (xl (xl (xl (xl (xt4 (xt4 (xt4 (xt1 (xh))))))))))) (xc (xt1 (xl (xl (xl (xl (xr (xh))))))) (xc (xt1 (xl (xl (xl (xl (xr (xt1 (xh)))))))) (xc (xt1 (xl (xl (xl (xl (xr (xt1 (xt1 (xh))))))))) (xc (xt1 (xl (xl (xl (xl (xr (xt1 (xt1 (xt1 (xh)))))))))) (xc (xt1 (xl (xl (xl (xl (xr (xt4 (xh)))))))) (xc (xt1 (xl (xl (xl (xl (xr (xt4 (xt1 (xh))))))))) (xc (xt1 (xl (xl (xl (xl (xr (xt4 (xt1 (xt1 (xh)))))))))) (xc (xt1 (xl (xl (xl (xl (xr (xt4 (xt1 (xt1 (xt1 (xh))))))))))) (xc (xt1 (xl (xl (xl (xl (xr (xt4 (xt4 (xh))))))))) (xn)))))))))))))))) (fun _ h => xt1 (xl (xl (xr (h)))))) (fun _ h => xt1 (xl (xr (h)))))) (by decide +kernel)
set_option maxRecDepth 20000 in
theorem gX9_land_X0_takeTop : GoodIn wsX9_land (wsV RX9 129 RX0 yX0_takeTop wsX0_takeTop) := goodIn_app (goodIn_sub (xc (xt1 (xl (xl (xl (xl (xl (xt4 (xt4 (xt4 (xt1 (xt1 (xt1 (xh))))))))))))) (xc (xt1 (xl (xl (xl (xl (xl (xt16 (xh)))))))) (xc (xt1 (xl (xl (xl (xl (xl (xt16 (xt1 (xh))))))))) (xc (xt1 (xl (xl (xl (xl (xl (xt4 (xt4 (xt4 (xt1 (xh))))))))))) (xn))))) (by decide +kernel)) ggX9_land_X0_takeTop
theorem dX9_land_0 : decode cX9_land 0 = .ok (.aload_n 0, 1) := by decide +kernel
theorem dX9_land_1 : decode cX9_land 1 = .ok (.iload_n 1, 1) := by decide +kernel
theorem dX9_land_2 : decode cX9_land 2 = .ok (.iload_n 2, 1) := by decide +kernel
theorem dX9_land_3 : decode cX9_land 3 = .ok (.invokevirtual 119, 3) := by decide +kernel
theorem dX9_land_6 : decode cX9_land 6 = .ok (.aload_n 0, 1) := by decide +kernel
theorem dX9_land_7 : decode cX9_land 7 = .ok (.getfield 44, 3) := by decide +kernel
theorem dX9_land_10 : decode cX9_land 10 = .ok (.iload_n 1, 1) := by decide +kernel
theorem dX9_land_11 : decode cX9_land 11 = .ok (.iload_n 2, 1) := by decide +kernel
theorem dX9_land_12 : decode cX9_land 12 = .ok (.invokestatic 122, 3) := by decide +kernel
theorem dX9_land_15 : decode cX9_land 15 = .ok (.invokevirtual 129, 3) := by decide +kernel
theorem dX9_land_18 : decode cX9_land 18 = .ok (.ireturn, 1) := by decide +kernel
set_option maxRecDepth 20000 in
theorem ggX9_storm_X9_needIndex : GoodIn wsX9_storm wsX9_needIndex := goodIn_sub (xc (xt1 (xl (xl (xl (xl (xl (xl (xl (xt4 (xh)))))))))) (xa (xc (xt1 (xl (xl (xl (xl (xl (xl (xl (xt4 (xt1 (xh))))))))))) (xc (xt1 (xl (xl (xl (xl (xl (xl (xl (xt4 (xt1 (xt1 (xh)))))))))))) (xn))) (fun _ h => xt1 (xl (xr (h)))))) (by decide +kernel)
set_option maxRecDepth 20000 in
theorem gX9_storm_X9_needIndex : GoodIn wsX9_storm (va_wsS RX9 106 yX9_needIndex wsX9_needIndex) := goodIn_app (goodIn_sub (xc (xt1 (xl (xl (xl (xl (xl (xl (xl (xt1 (xh)))))))))) (xc (xt1 (xl (xl (xl (xl (xl (xl (xl (xt1 (xt1 (xh))))))))))) (xc (xt1 (xl (xl (xl (xl (xl (xl (xl (xt1 (xt1 (xt1 (xh)))))))))))) (xn)))) (by decide +kernel)) ggX9_storm_X9_needIndex
set_option maxRecDepth 20000 in
theorem ggX9_storm_X9_needNumber : GoodIn wsX9_storm wsX9_needNumber := goodIn_sub (xc (xt1 (xl (xl (xl (xl (xl (xl (xl (xt4 (xt4 (xt1 (xh)))))))))))) (xa (xc (xt1 (xl (xl (xl (xl (xl (xl (xl (xt4 (xt4 (xt1 (xt1 (xh))))))))))))) (xc (xt1 (xl (xl (xl (xl (xl (xl (xl (xt4 (xt4 (xt1 (xt1 (xt1 (xh)))))))))))))) (xn))) (fun _ h => xt1 (xr (h))))) (by decide +kernel)
set_option maxRecDepth 20000 in
theorem gX9_storm_X9_needNumber : GoodIn wsX9_storm (va_wsS RX9 91 yX9_needNumber wsX9_needNumber) := goodIn_app (goodIn_sub (xc (xt1 (xl (xl (xl (xl (xl (xl (xl (xt4 (xt1 (xt1 (xt1 (xh))))))))))))) (xc (xt1 (xl (xl (xl (xl (xl (xl (xl (xt4 (xt4 (xh))))))))))) (xc (xt1 (xl (xl (xl (xl (xl (xl (xl (xt1 (xt1 (xt1 (xh)))))))))))) (xn)))) (by decide +kernel)) ggX9_storm_X9_needNumber
set_option maxRecDepth 20000 in
theorem ggX9_storm_X0_shake : GoodIn wsX9_storm wsX0_shake := goodIn_sub (xc (xt1 (xl (xl (xl (xl (xl (xl (xl (xt16 (xh)))))))))) (xa (xa (xa (xa (xc (xt1 (xl (xl (xl (xl (xl (xl (xl (xt16 (xt1 (xh))))))))))) (xc (xt1 (xl (xl (xl (xl (xl (xl (xl (xt16 (xt1 (xt1 (xh)))))))))))) (xc (xt1 (xl (xl (xl (xl (xl (xl (xl (xt16 (xt1 (xt1 (xt1 (xh))))))))))))) (xc (xt1 (xl (xl (xl (xl (xl (xl (xl (xt4 (xt4 (xt4 (xt1 (xt1 (xt1 (xh))))))))))))))) (xc (xt1 (xl (xl (xl (xl (xl (xl (xl (xt16 (xt4 (xh))))))))))) (xc (xt1 (xl (xl (xl (xl (xl (xl (xl (xt16 (xt4 (xt1 (xh)))))))))))) (xc (xt1 (xl (xl (xl (xl (xl (xl (xl (xt16 (xt4 (xt1 (xt1 (xh))))))))))))) (xc (xt1 (xl (xl (xl (xl (xl (xl (xl (xt16 (xt4 (xt1 (xt1 (xt1 (xh)))))))))))))) (xc (xt1 (xl (xl (xl (xl (xl (xl (xr (xl (xh)))))))))) (xc (xt1 (xl (xl (xl (xl (xl (xl (xr (xl (xt1 (xh))))))))))) (xc (xt1 (xl (xl (xl (xl (xl (xl (xr (xl (xt1 (xt1 (xh)))))))))))) (xc (xt1 (xl (xl (xl (xl (xl (xl (xr (xl (xt1 (xt1 (xt1 (xh))))))))))))) (xc (xt1 (xl (xl (xl (xl (xl (xl (xr (xl (xt4 (xh))))))))))) (xc (xt1 (xl (xl (xl (xl (xl (xl (xr (xl (xt4 (xt1 (xh)))))))))))) (xc (xt1 (xl (xl (xl (xl (xl (xl (xr (xl (xt4 (xt1 (xt1 (xh))))))))))))) (xc (xt1 (xl (xl (xl (xl (xl (xl (xr (xl (xt4 (xt1 (xt1 (xt1 (xh)))))))))))))) (xc (xt1 (xl (xl (xl (xl (xl (xl (xr (xl (xt4 (xt4 (xh)))))))))))) (xc (xt1 (xl (xl (xl (xl (xl (xl (xr (xl (xt4 (xt4 (xt1 (xh))))))))))))) (xc (xt1 (xl (xl (xl (xl (xl (xl (xr (xl (xt4 (xt4 (xt1 (xt1 (xh)))))))))))))) (xc (xt1 (xl (xl (xl (xl (xl (xl (xr (xl (xt4 (xt4 (xt1 (xt1 (xt1 (xh))))))))))))))) (xc (xt1 (xl (xl (xl (xl (xl (xl (xr (xl (xt4 (xt4 (xt4 (xh))))))))))))) (xc (xt1 (xl (xl (xl (xl (xl (xl (xr (xl (xt4 (xt4 (xt4 (xt1 (xh)))))))))))))) (xc (xt1 (xl (xl (xl (xl (xl (xl (xr (xl (xt4 (xt4 (xt4 (xt1 (xt1 (xh))))))))))))))) (xc (xt1 (xl (xl (xl (xl (xl (xl (xr (xl (xt4 (xt4 (xt4 (xt1 (xt1 (xt1 (xh)))))))))))))))) (xn))))))))))))))))))))))))) (xc (xt1 (xl (xl (xl (xl (xl (xl (xr (xl (xt16 (xh))))))))))) (xc (xt1 (xl (xl (xl (xl (xl (xl (xr (xl (xt16 (xt1 (xh)))))))))))) (xc (xt1 (xl (xl (xl (xl (xl (xl (xr (xl (xt16 (xt1 (xt1 (xh))))))))))))) (xc (xt1 (xl (xl (xl (xl (xl (xl (xr (xl (xt16 (xt1 (xt1 (xt1 (xh)))))))))))))) (xc (xt1 (xl (xl (xl (xl (xl (xl (xr (xl (xt16 (xt4 (xh)))))))))))) (xc (xt1 (xl (xl (xl (xl (xl (xl (xr (xl (xt16 (xt4 (xt1 (xh))))))))))))) (xc (xt1 (xl (xl (xl (xl (xl (xl (xr (xl (xt16 (xt4 (xt1 (xt1 (xh)))))))))))))) (xc (xt1 (xl (xl (xl (xl (xl (xl (xr (xl (xt16 (xt4 (xt1 (xt1 (xt1 (xh))))))))))))))) (xc (xt1 (xl (xl (xl (xl (xl (xl (xr (xr (xh)))))))))) (xc (xt1 (xl (xl (xl (xl (xl (xl (xr (xr (xt1 (xh))))))))))) (xc (xt1 (xl (xl (xl (xl (xl (xl (xr (xr (xt1 (xt1 (xh)))))))))))) (xc (xt1 (xl (xl (xl (xl (xl (xl (xr (xr (xt1 (xt1 (xt1 (xh))))))))))))) (xc (xt1 (xl (xl (xl (xl (xl (xl (xr (xr (xt4 (xh))))))))))) (xc (xt1 (xl (xl (xl (xl (xl (xl (xr (xr (xt4 (xt1 (xh)))))))))))) (xc (xt1 (xl (xl (xl (xl (xl (xl (xr (xr (xt4 (xt1 (xt1 (xh))))))))))))) (xc (xt1 (xl (xl (xl (xl (xl (xl (xr (xr (xt4 (xt1 (xt1 (xt1 (xh)))))))))))))) (xc (xt1 (xl (xl (xl (xl (xl (xl (xr (xr (xt4 (xt4 (xh)))))))))))) (xn))))))))))))))))))) (fun _ h => xt1 (xl (xl (xl (xl (xr (h)))))))) (fun _ h => xt1 (xl (xl (xl (xr (h))))))) (fun _ h => xt1 (xl (xl (xr (h))))))) (by decide +kernel)
set_option maxRecDepth 20000 in
theorem gX9_storm_X0_shake : GoodIn wsX9_storm (wsV RX9 133 RX0 yX0_shake wsX0_shake) := goodIn_app (goodIn_sub (xc (xt1 (xl (xl (xl (xl (xl (xl (xl (xt4 (xt4 (xt4 (xh)))))))))))) (xc (xt1 (xl (xl (xl (xl (xl (xl (xl (xt4 (xt4 (xt4 (xt1 (xh))))))))))))) (xc (xt1 (xl (xl (xl (xl (xl (xl (xl (xt4 (xt4 (xt4 (xt1 (xt1 (xh)))))))))))))) (xc (xt1 (xl (xl (xl (xl (xl (xl (xl (xt4 (xt4 (xt4 (xt1 (xt1 (xt1 (xh))))))))))))))) (xn))))) (by decide +kernel)) ggX9_storm_X0_shake
theorem dX9_storm_0 : decode cX9_storm 0 = .ok (.iload_n 1, 1) := by decide +kernel
theorem dX9_storm_1 : decode cX9_storm 1 = .ok (.aload_n 0, 1) := by decide +kernel
theorem dX9_storm_2 : decode cX9_storm 2 = .ok (.getfield 44, 3) := by decide +kernel
theorem dX9_storm_5 : decode cX9_storm 5 = .ok (.getfield 115, 3) := by decide +kernel
theorem dX9_storm_8 : decode cX9_storm 8 = .ok (.invokestatic 106, 3) := by decide +kernel
theorem dX9_storm_11 : decode cX9_storm 11 = .ok (.iload_n 2, 1) := by decide +kernel
theorem dX9_storm_12 : decode cX9_storm 12 = .ok (.iconst 0, 1) := by decide +kernel
theorem dX9_storm_13 : decode cX9_storm 13 = .ok (.bipush 100, 2) := by decide +kernel
theorem dX9_storm_15 : decode cX9_storm 15 = .ok (.invokestatic 91, 3) := by decide +kernel
theorem dX9_storm_18 : decode cX9_storm 18 = .ok (.aload_n 0, 1) := by decide +kernel
theorem dX9_storm_19 : decode cX9_storm 19 = .ok (.getfield 44, 3) := by decide +kernel
theorem dX9_storm_22 : decode cX9_storm 22 = .ok (.iload_n 1, 1) := by decide +kernel
theorem dX9_storm_23 : decode cX9_storm 23 = .ok (.iload_n 2, 1) := by decide +kernel
theorem dX9_storm_24 : decode cX9_storm 24 = .ok (.invokevirtual 133, 3) := by decide +kernel
theorem dX9_storm_27 : decode cX9_storm 27 = .ok (.ireturn, 1) := by decide +kernel
set_option maxRecDepth 20000 in
theorem ggX9_look_X9_needIndex : GoodIn wsX9_look wsX9_needIndex := goodIn_sub (xc (xt1 (xl (xl (xl (xl (xl (xl (xl (xt4 (xt1 (xt1 (xt1 (xh))))))))))))) (xa (xc (xt1 (xl (xl (xl (xl (xl (xl (xl (xt4 (xt4 (xh))))))))))) (xc (xt1 (xl (xl (xl (xl (xl (xl (xl (xt4 (xt4 (xt1 (xh)))))))))))) (xn))) (fun _ h => xt1 (xr (h))))) (by decide +kernel)
set_option maxRecDepth 20000 in
theorem gX9_look_X9_needIndex : GoodIn wsX9_look (va_wsS RX9 106 yX9_needIndex wsX9_needIndex) := goodIn_app (goodIn_sub (xc (xt1 (xl (xl (xl (xl (xl (xl (xl (xt4 (xh)))))))))) (xc (xt1 (xl (xl (xl (xl (xl (xl (xl (xt4 (xt1 (xh))))))))))) (xc (xt1 (xl (xl (xl (xl (xl (xl (xl (xt4 (xt1 (xt1 (xh)))))))))))) (xn)))) (by decide +kernel)) ggX9_look_X9_needIndex
set_option maxRecDepth 20000 in
theorem ggX9_look_X1_weight : GoodIn wsX9_look wsX1_weight := goodIn_sub (xc (xt1 (xl (xl (xl (xl (xl (xl (xl (xt4 (xt4 (xt4 (xt1 (xt1 (xh)))))))))))))) (xa (xa (xc (xt1 (xl (xl (xl (xl (xl (xl (xl (xt4 (xt4 (xt4 (xt1 (xt1 (xt1 (xh))))))))))))))) (xc (xt1 (xl (xl (xl (xl (xl (xl (xl (xt16 (xh)))))))))) (xc (xt1 (xl (xl (xl (xl (xl (xl (xl (xt16 (xt1 (xh))))))))))) (xn)))) (fun _ h => xt1 (xl (xl (xl (xl (xr (h)))))))) (fun _ h => xt1 (xl (xl (xl (xr (h)))))))) (by decide +kernel)
set_option maxRecDepth 20000 in
theorem gX9_look_X1_weight : GoodIn wsX9_look (wsV RX9 152 RX1 yX1_weight wsX1_weight) := goodIn_app (goodIn_sub (xc (xt1 (xl (xl (xl (xl (xl (xl (xl (xt4 (xt4 (xt1 (xt1 (xh))))))))))))) (xc (xt1 (xl (xl (xl (xl (xl (xl (xl (xt4 (xt4 (xt1 (xt1 (xt1 (xh)))))))))))))) (xc (xt1 (xl (xl (xl (xl (xl (xl (xl (xt4 (xt4 (xt4 (xh)))))))))))) (xc (xt1 (xl (xl (xl (xl (xl (xl (xl (xt4 (xt4 (xt4 (xt1 (xh))))))))))))) (xn))))) (by decide +kernel)) ggX9_look_X1_weight
set_option maxRecDepth 20000 in
theorem ggX9_look_X0_shipOf : GoodIn wsX9_look wsX0_shipOf := goodIn_sub (xc (xt1 (xl (xl (xl (xl (xl (xl (xl (xt16 (xt4 (xt1 (xh)))))))))))) (xn)) (by decide +kernel)
set_option maxRecDepth 20000 in
theorem gX9_look_X0_shipOf : GoodIn wsX9_look (va_wsS RX9 158 yX0_shipOf wsX0_shipOf) := goodIn_app (goodIn_sub (xc (xt1 (xl (xl (xl (xl (xl (xl (xl (xt16 (xt1 (xt1 (xh)))))))))))) (xc (xt1 (xl (xl (xl (xl (xl (xl (xl (xt16 (xt1 (xt1 (xt1 (xh))))))))))))) (xc (xt1 (xl (xl (xl (xl (xl (xl (xl (xt16 (xt4 (xh))))))))))) (xn)))) (by decide +kernel)) ggX9_look_X0_shipOf
set_option maxRecDepth 20000 in
theorem ggX9_look_X0_holdOf : GoodIn wsX9_look wsX0_holdOf := goodIn_sub (xc (xt1 (xl (xl (xl (xl (xl (xl (xr (xh))))))))) (xn)) (by decide +kernel)
set_option maxRecDepth 20000 in
theorem gX9_look_X0_holdOf : GoodIn wsX9_look (va_wsS RX9 161 yX0_holdOf wsX0_holdOf) := goodIn_app (goodIn_sub (xc (xt1 (xl (xl (xl (xl (xl (xl (xl (xt16 (xt4 (xt1 (xt1 (xh))))))))))))) (xc (xt1 (xl (xl (xl (xl (xl (xl (xl (xt16 (xt4 (xt1 (xt1 (xt1 (xh)))))))))))))) (xc (xt1 (xl (xl (xl (xl (xl (xl (xl (xt16 (xt4 (xh))))))))))) (xn)))) (by decide +kernel)) ggX9_look_X0_holdOf
set_option maxRecDepth 20000 in
theorem ggX9_look_X0_weightAbove : GoodIn wsX9_look wsX0_weightAbove := goodIn_sub (xc (xt1 (xl (xl (xl (xl (xl (xl (xr (xt4 (xh)))))))))) (xa (xa (xa (xc (xt1 (xl (xl (xl (xl (xl (xl (xr (xt4 (xt1 (xh))))))))))) (xc (xt1 (xl (xl (xl (xl (xl (xl (xr (xt4 (xt1 (xt1 (xh)))))))))))) (xc (xt1 (xl (xl (xl (xl (xl (xl (xr (xt4 (xt1 (xt1 (xt1 (xh))))))))))))) (xc (xt1 (xl (xl (xl (xl (xl (xl (xr (xt4 (xt4 (xh))))))))))) (xc (xt1 (xl (xl (xl (xl (xl (xl (xl (xt4 (xt4 (xt1 (xt1 (xt1 (xh)))))))))))))) (xc (xt1 (xl (xl (xl (xl (xl (xl (xl (xt4 (xt4 (xt4 (xh)))))))))))) (xc (xt1 (xl (xl (xl (xl (xl (xl (xl (xt4 (xt4 (xt4 (xt1 (xh))))))))))))) (xc (xt1 (xl (xl (xl (xl (xl (xl (xl (xt4 (xt4 (xt4 (xt1 (xt1 (xh)))))))))))))) (xc (xt1 (xl (xl (xl (xl (xl (xl (xl (xt4 (xt4 (xt4 (xt1 (xt1 (xt1 (xh))))))))))))))) (xc (xt1 (xl (xl (xl (xl (xl (xl (xl (xt16 (xh)))))))))) (xc (xt1 (xl (xl (xl (xl (xl (xl (xl (xt16 (xt1 (xh))))))))))) (xn)))))))))))) (fun _ h => xt1 (xl (xl (xr (h)))))) (fun _ h => xt1 (xl (xl (xl (xl (xr (h)))))))) (fun _ h => xt1 (xl (xl (xl (xr (h)))))))) (by decide +kernel)
set_option maxRecDepth 20000 in
theorem gX9_look_X0_weightAbove : GoodIn wsX9_look (wsV RX9 164 RX0 yX0_weightAbove wsX0_weightAbove) := goodIn_app (goodIn_sub (xc (xt1 (xl (xl (xl (xl (xl (xl (xr (xt1 (xh)))))))))) (xc (xt1 (xl (xl (xl (xl (xl (xl (xr (xt1 (xt1 (xh))))))))))) (xc (xt1 (xl (xl (xl (xl (xl (xl (xr (xt1 (xt1 (xt1 (xh)))))))))))) (xc (xt1 (xl (xl (xl (xl (xl (xl (xl (xt16 (xt4 (xh))))))))))) (xn))))) (by decide +kernel)) ggX9_look_X0_weightAbove
theorem dX9_look_0 : decode cX9_look 0 = .ok (.iload_n 1, 1) := by decide +kernel
theorem dX9_look_1 : decode cX9_look 1 = .ok (.aload_n 0, 1) := by decide +kernel
theorem dX9_look_2 : decode cX9_look 2 = .ok (.getfield 35, 3) := by decide +kernel
theorem dX9_look_5 : decode cX9_look 5 = .ok (.getfield 109, 3) := by decide +kernel
theorem dX9_look_8 : decode cX9_look 8 = .ok (.invokestatic 106, 3) := by decide +kernel
theorem dX9_look_11 : decode cX9_look 11 = .ok (.iload_n 2, 1) := by decide +kernel
theorem dX9_look_12 : decode cX9_look 12 = .ok (.tableswitch 146 0 8 #[52, 62, 72, 82, 92, 102, 111, 124, 137], 52) := by decide +kernel
theorem dX9_look_64 : decode cX9_look 64 = .ok (.aload_n 0, 1) := by decide +kernel
theorem dX9_look_65 : decode cX9_look 65 = .ok (.getfield 35, 3) := by decide +kernel
theorem dX9_look_68 : decode cX9_look 68 = .ok (.getfield 136, 3) := by decide +kernel
theorem dX9_look_71 : decode cX9_look 71 = .ok (.iload_n 1, 1) := by decide +kernel
theorem dX9_look_72 : decode cX9_look 72 = .ok (.iaload, 1) := by decide +kernel
theorem dX9_look_73 : decode cX9_look 73 = .ok (.ireturn, 1) := by decide +kernel
theorem dX9_look_74 : decode cX9_look 74 = .ok (.aload_n 0, 1) := by decide +kernel
theorem dX9_look_75 : decode cX9_look 75 = .ok (.getfield 35, 3) := by decide +kernel
theorem dX9_look_78 : decode cX9_look 78 = .ok (.getfield 140, 3) := by decide +kernel
theorem dX9_look_81 : decode cX9_look 81 = .ok (.iload_n 1, 1) := by decide +kernel
theorem dX9_look_82 : decode cX9_look 82 = .ok (.iaload, 1) := by decide +kernel
theorem dX9_look_83 : decode cX9_look 83 = .ok (.ireturn, 1) := by decide +kernel
theorem dX9_look_84 : decode cX9_look 84 = .ok (.aload_n 0, 1) := by decide +kernel
theorem dX9_look_85 : decode cX9_look 85 = .ok (.getfield 35, 3) := by decide +kernel
theorem dX9_look_88 : decode cX9_look 88 = .ok (.getfield 143, 3) := by decide +kernel
theorem dX9_look_91 : decode cX9_look 91 = .ok (.iload_n 1, 1) := by decide +kernel
theorem dX9_look_92 : decode cX9_look 92 = .ok (.iaload, 1) := by decide +kernel
theorem dX9_look_93 : decode cX9_look 93 = .ok (.ireturn, 1) := by decide +kernel
theorem dX9_look_94 : decode cX9_look 94 = .ok (.aload_n 0, 1) := by decide +kernel
theorem dX9_look_95 : decode cX9_look 95 = .ok (.getfield 35, 3) := by decide +kernel
theorem dX9_look_98 : decode cX9_look 98 = .ok (.getfield 146, 3) := by decide +kernel
theorem dX9_look_101 : decode cX9_look 101 = .ok (.iload_n 1, 1) := by decide +kernel
theorem dX9_look_102 : decode cX9_look 102 = .ok (.iaload, 1) := by decide +kernel
theorem dX9_look_103 : decode cX9_look 103 = .ok (.ireturn, 1) := by decide +kernel
theorem dX9_look_104 : decode cX9_look 104 = .ok (.aload_n 0, 1) := by decide +kernel
theorem dX9_look_105 : decode cX9_look 105 = .ok (.getfield 35, 3) := by decide +kernel
theorem dX9_look_108 : decode cX9_look 108 = .ok (.getfield 149, 3) := by decide +kernel
theorem dX9_look_111 : decode cX9_look 111 = .ok (.iload_n 1, 1) := by decide +kernel
theorem dX9_look_112 : decode cX9_look 112 = .ok (.iaload, 1) := by decide +kernel
theorem dX9_look_113 : decode cX9_look 113 = .ok (.ireturn, 1) := by decide +kernel
theorem dX9_look_114 : decode cX9_look 114 = .ok (.aload_n 0, 1) := by decide +kernel
theorem dX9_look_115 : decode cX9_look 115 = .ok (.getfield 35, 3) := by decide +kernel
theorem dX9_look_118 : decode cX9_look 118 = .ok (.iload_n 1, 1) := by decide +kernel
theorem dX9_look_119 : decode cX9_look 119 = .ok (.invokevirtual 152, 3) := by decide +kernel
theorem dX9_look_122 : decode cX9_look 122 = .ok (.ireturn, 1) := by decide +kernel
theorem dX9_look_123 : decode cX9_look 123 = .ok (.aload_n 0, 1) := by decide +kernel
theorem dX9_look_124 : decode cX9_look 124 = .ok (.getfield 35, 3) := by decide +kernel
theorem dX9_look_127 : decode cX9_look 127 = .ok (.getfield 155, 3) := by decide +kernel
theorem dX9_look_130 : decode cX9_look 130 = .ok (.iload_n 1, 1) := by decide +kernel
theorem dX9_look_131 : decode cX9_look 131 = .ok (.iaload, 1) := by decide +kernel
theorem dX9_look_132 : decode cX9_look 132 = .ok (.invokestatic 158, 3) := by decide +kernel
theorem dX9_look_135 : decode cX9_look 135 = .ok (.ireturn, 1) := by decide +kernel
theorem dX9_look_136 : decode cX9_look 136 = .ok (.aload_n 0, 1) := by decide +kernel
theorem dX9_look_137 : decode cX9_look 137 = .ok (.getfield 35, 3) := by decide +kernel
theorem dX9_look_140 : decode cX9_look 140 = .ok (.getfield 155, 3) := by decide +kernel
theorem dX9_look_143 : decode cX9_look 143 = .ok (.iload_n 1, 1) := by decide +kernel
theorem dX9_look_144 : decode cX9_look 144 = .ok (.iaload, 1) := by decide +kernel
theorem dX9_look_145 : decode cX9_look 145 = .ok (.invokestatic 161, 3) := by decide +kernel
theorem dX9_look_148 : decode cX9_look 148 = .ok (.ireturn, 1) := by decide +kernel
theorem dX9_look_149 : decode cX9_look 149 = .ok (.aload_n 0, 1) := by decide +kernel
theorem dX9_look_150 : decode cX9_look 150 = .ok (.getfield 44, 3) := by decide +kernel
theorem dX9_look_153 : decode cX9_look 153 = .ok (.iload_n 1, 1) := by decide +kernel
theorem dX9_look_154 : decode cX9_look 154 = .ok (.invokevirtual 164, 3) := by decide +kernel
theorem dX9_look_157 : decode cX9_look 157 = .ok (.ireturn, 1) := by decide +kernel
theorem dX9_look_158 : decode cX9_look 158 = .ok (.new 167, 3) := by decide +kernel
theorem dX9_look_161 : decode cX9_look 161 = .ok (.dup, 1) := by decide +kernel
theorem dX9_look_162 : decode cX9_look 162 = .ok (.ldc 169, 2) := by decide +kernel
theorem dX9_look_164 : decode cX9_look 164 = .ok (.invokespecial 171, 3) := by decide +kernel
theorem dX9_look_167 : decode cX9_look 167 = .ok (.athrow, 1) := by decide +kernel
set_option maxRecDepth 20000 in
theorem ggX9_stack_X9_needHold : GoodIn wsX9_stack wsX9_needHold := goodIn_sub (xc (xt1 (xl (xl (xl (xt4 (xt1 (xh))))))) (xa (xa (xa (xc (xt1 (xl (xl (xl (xh))))) (xc (xt1 (xl (xl (xl (xt4 (xt1 (xt1 (xh)))))))) (xc (xt1 (xl (xl (xl (xt4 (xt1 (xt1 (xt1 (xh))))))))) (xc (xt1 (xl (xl (xl (xt4 (xh)))))) (xc (xt1 (xl (xl (xl (xt4 (xt4 (xh))))))) (xc (xt1 (xl (xl (xl (xt4 (xt4 (xt1 (xh)))))))) (xc (xt1 (xl (xl (xl (xt4 (xt4 (xt1 (xt1 (xh))))))))) (xn)))))))) (fun _ h => xt1 (xl (xl (xr (h)))))) (fun _ h => xt1 (xl (xr (h))))) (fun _ h => xt1 (xr (h))))) (by decide +kernel)
set_option maxRecDepth 20000 in
theorem gX9_stack_X9_needHold : GoodIn wsX9_stack (wsV RX9 119 RX9 yX9_needHold wsX9_needHold) := goodIn_app (goodIn_sub (xc (xt1 (xl (xl (xl (xt1 (xh)))))) (xc (xt1 (xl (xl (xl (xt1 (xt1 (xh))))))) (xc (xt1 (xl (xl (xl (xt1 (xt1 (xt1 (xh)))))))) (xc (xt1 (xl (xl (xl (xt4 (xh)))))) (xn))))) (by decide +kernel)) ggX9_stack_X9_needHold
set_option maxRecDepth 20000 in
theorem ggX9_stack_X0_pileOf : GoodIn wsX9_stack wsX0_pileOf := goodIn_sub (xc (xt1 (xl (xl (xl (xt4 (xt4 (xt4 (xt1 (xt1 (xh)))))))))) (xn)) (by decide +kernel)
set_option maxRecDepth 20000 in
theorem gX9_stack_X0_pileOf : GoodIn wsX9_stack (va_wsS RX9 122 yX0_pileOf wsX0_pileOf) := goodIn_app (goodIn_sub (xc (xt1 (xl (xl (xl (xt4 (xt4 (xt1 (xt1 (xt1 (xh)))))))))) (xc (xt1 (xl (xl (xl (xt4 (xt4 (xt4 (xh)))))))) (xc (xt1 (xl (xl (xl (xt4 (xt4 (xt4 (xt1 (xh))))))))) (xn)))) (by decide +kernel)) ggX9_stack_X0_pileOf
set_option maxRecDepth 20000 in
theorem ggX9_stack_X0_jarAt : GoodIn wsX9_stack wsX0_jarAt := goodIn_sub (xc (xt1 (xl (xl (xl (xt16 (xt1 (xt1 (xh)))))))) (xa (xc (xt1 (xl (xl (xl (xt16 (xt1 (xt1 (xt1 (xh))))))))) (xc (xt1 (xl (xl (xl (xt16 (xt4 (xh))))))) (xn))) (fun _ h => xt1 (xl (xr (h)))))) (by decide +kernel)
set_option maxRecDepth 20000 in
theorem gX9_stack_X0_jarAt : GoodIn wsX9_stack (wsV RX9 174 RX0 yX0_jarAt wsX0_jarAt) := goodIn_app (goodIn_sub (xc (xt1 (xl (xl (xl (xt4 (xt4 (xt4 (xt1 (xt1 (xt1 (xh))))))))))) (xc (xt1 (xl (xl (xl (xt16 (xh)))))) (xc (xt1 (xl (xl (xl (xt16 (xt1 (xh))))))) (xc (xt1 (xl (xl (xl (xt4 (xt4 (xt4 (xt1 (xh))))))))) (xn))))) (by decide +kernel)) ggX9_stack_X0_jarAt
theorem dX9_stack_0 : decode cX9_stack 0 = .ok (.aload_n 0, 1) := by decide +kernel
theorem dX9_stack_1 : decode cX9_stack 1 = .ok (.iload_n 1, 1) := by decide +kernel
theorem dX9_stack_2 : decode cX9_stack 2 = .ok (.iload_n 2, 1) := by decide +kernel
theorem dX9_stack_3 : decode cX9_stack 3 = .ok (.invokevirtual 119, 3) := by decide +kernel
theorem dX9_stack_6 : decode cX9_stack 6 = .ok (.aload_n 0, 1) := by decide +kernel
theorem dX9_stack_7 : decode cX9_stack 7 = .ok (.getfield 44, 3) := by decide +kernel
theorem dX9_stack_10 : decode cX9_stack 10 = .ok (.iload_n 1, 1) := by decide +kernel
theorem dX9_stack_11 : decode cX9_stack 11 = .ok (.iload_n 2, 1) := by decide +kernel
theorem dX9_stack_12 : decode cX9_stack 12 = .ok (.invokestatic 122, 3) := by decide +kernel
theorem dX9_stack_15 : decode cX9_stack 15 = .ok (.iload_n 3, 1) := by decide +kernel
theorem dX9_stack_16 : decode cX9_stack 16 = .ok (.invokevirtual 174, 3) := by decide +kernel
theorem dX9_stack_19 : decode cX9_stack 19 = .ok (.ireturn, 1) := by decide +kernel
set_option maxRecDepth 20000 in
theorem ggX9_tallest_X6_choose : GoodIn wsX9_tallest wsX6_choose := goodIn_sub (xc (xt1 (xl (xl (xl (xl (xl (xl (xt4 (xt1 (xh)))))))))) (xa (xa (xa (xc (xt1 (xl (xl (xl (xl (xl (xl (xt4 (xt1 (xt1 (xh))))))))))) (xc (xt1 (xl (xl (xl (xl (xl (xl (xt4 (xt1 (xt1 (xt1 (xh)))))))))))) (xc (xt1 (xl (xl (xl (xl (xl (xl (xt4 (xt4 (xh)))))))))) (xc (xt1 (xl (xl (xl (xl (xl (xl (xt4 (xt4 (xt1 (xh))))))))))) (xc (xt1 (xl (xl (xl (xl (xl (xl (xt4 (xt4 (xt1 (xt1 (xh)))))))))))) (xc (xt1 (xl (xl (xl (xl (xl (xl (xt4 (xh))))))))) (xc (xt1 (xl (xl (xl (xl (xl (xl (xt4 (xt4 (xt1 (xt1 (xt1 (xh))))))))))))) (xc (xt1 (xl (xl (xl (xl (xl (xl (xt4 (xt4 (xt4 (xh))))))))))) (xc (xt1 (xl (xl (xl (xl (xl (xl (xt4 (xt4 (xt4 (xt1 (xh)))))))))))) (xc (xt1 (xl (xl (xl (xl (xl (xl (xt4 (xt4 (xt4 (xt1 (xt1 (xh))))))))))))) (xc (xt1 (xl (xl (xl (xl (xl (xl (xt4 (xt4 (xt4 (xt1 (xt1 (xt1 (xh)))))))))))))) (xc (xt1 (xl (xl (xl (xl (xl (xl (xt16 (xh))))))))) (xc (xt1 (xl (xl (xl (xl (xl (xl (xt16 (xt1 (xh)))))))))) (xc (xt1 (xl (xl (xl (xl (xl (xl (xt16 (xt1 (xt1 (xh))))))))))) (xc (xt1 (xl (xl (xl (xl (xl (xl (xt16 (xt1 (xt1 (xt1 (xh)))))))))))) (xc (xt1 (xl (xl (xl (xl (xl (xl (xt16 (xt4 (xh)))))))))) (xc (xt1 (xl (xl (xl (xl (xl (xl (xt16 (xt4 (xt1 (xh))))))))))) (xc (xt1 (xl (xl (xl (xl (xl (xl (xt16 (xt4 (xt1 (xt1 (xh)))))))))))) (xc (xt1 (xl (xl (xl (xl (xl (xl (xt16 (xt4 (xt1 (xt1 (xt1 (xh))))))))))))) (xc (xt1 (xl (xl (xl (xl (xl (xr (xh)))))))) (xc (xt1 (xl (xl (xl (xl (xl (xr (xt1 (xh))))))))) (xc (xt1 (xl (xl (xl (xl (xl (xr (xt1 (xt1 (xh)))))))))) (xc (xt1 (xl (xl (xl (xl (xl (xr (xt1 (xt1 (xt1 (xh))))))))))) (xc (xt1 (xl (xl (xl (xl (xl (xr (xt4 (xh))))))))) (xn))))))))))))))))))))))))) (fun _ h => xt1 (xl (xl (xl (xr (h))))))) (fun _ h => xt1 (xl (xl (xr (h)))))) (fun _ h => xt1 (xl (xr (h)))))) (by decide +kernel)
set_option maxRecDepth 20000 in
theorem gX9_tallest_X6_choose : GoodIn wsX9_tallest (wsV RX9 177 RX6 yX6_choose wsX6_choose) := goodIn_app (goodIn_sub (xc (xt1 (xl (xl (xl (xl (xl (xl (xt1 (xh))))))))) (xc (xt1 (xl (xl (xl (xl (xl (xl (xt1 (xt1 (xh)))))))))) (xc (xt1 (xl (xl (xl (xl (xl (xl (xt1 (xt1 (xt1 (xh))))))))))) (xc (xt1 (xl (xl (xl (xl (xl (xl (xt4 (xh))))))))) (xn))))) (by decide +kernel)) ggX9_tallest_X6_choose
set_option maxRecDepth 20000 in
theorem ggX9_tallest_X9_needNumber : GoodIn wsX9_tallest wsX9_needNumber := goodIn_sub (xc (xt1 (xl (xl (xl (xl (xl (xr (xt4 (xt4 (xh)))))))))) (xa (xc (xt1 (xl (xl (xl (xl (xl (xr (xt4 (xt4 (xt1 (xh))))))))))) (xc (xt1 (xl (xl (xl (xl (xl (xr (xt4 (xt4 (xt1 (xt1 (xh)))))))))))) (xn))) (fun _ h => xt1 (xr (h))))) (by decide +kernel)
set_option maxRecDepth 20000 in
theorem gX9_tallest_X9_needNumber : GoodIn wsX9_tallest (va_wsS RX9 91 yX9_needNumber wsX9_needNumber) := goodIn_app (goodIn_sub (xc (xt1 (xl (xl (xl (xl (xl (xr (xt4 (xt1 (xh)))))))))) (xc (xt1 (xl (xl (xl (xl (xl (xr (xt4 (xt1 (xt1 (xh))))))))))) (xc (xt1 (xl (xl (xl (xl (xl (xr (xt4 (xt1 (xt1 (xt1 (xh)))))))))))) (xn)))) (by decide +kernel)) ggX9_tallest_X9_needNumber
set_option maxRecDepth 20000 in
theorem ggX9_tallest_X6_greatest : GoodIn wsX9_tallest wsX6_greatest := goodIn_sub (xc (xt1 (xl (xl (xl (xl (xl (xr (xt4 (xt4 (xt4 (xt1 (xt1 (xh))))))))))))) (xa (xa (xa (xc (xt1 (xl (xl (xl (xl (xl (xr (xt4 (xt4 (xt4 (xt1 (xt1 (xt1 (xh)))))))))))))) (xc (xt1 (xl (xl (xl (xl (xl (xl (xt4 (xt1 (xt1 (xh))))))))))) (xc (xt1 (xl (xl (xl (xl (xl (xl (xt4 (xt4 (xt4 (xh))))))))))) (xc (xt1 (xl (xl (xl (xl (xl (xr (xt16 (xh))))))))) (xc (xt1 (xl (xl (xl (xl (xl (xl (xt4 (xt1 (xt1 (xt1 (xh)))))))))))) (xc (xt1 (xl (xl (xl (xl (xl (xr (xt16 (xt1 (xh)))))))))) (xc (xt1 (xl (xl (xl (xl (xl (xr (xt16 (xt1 (xt1 (xh))))))))))) (xc (xt1 (xl (xl (xl (xl (xl (xr (xt16 (xt1 (xt1 (xt1 (xh)))))))))))) (xc (xt1 (xl (xl (xl (xl (xl (xr (xt16 (xt4 (xh)))))))))) (xc (xt1 (xl (xl (xl (xl (xl (xr (xt1 (xh))))))))) (xc (xt1 (xl (xl (xl (xl (xl (xr (xt1 (xt1 (xh)))))))))) (xc (xt1 (xl (xl (xl (xl (xl (xr (xt1 (xt1 (xt1 (xh))))))))))) (xc (xt1 (xl (xl (xl (xl (xl (xl (xt16 (xt4 (xh)))))))))) (xc (xt1 (xl (xl (xl (xl (xl (xr (xt4 (xh))))))))) (xc (xt1 (xl (xl (xl (xl (xl (xl (xt16 (xt4 (xt1 (xt1 (xh)))))))))))) (xc (xt1 (xl (xl (xl (xl (xl (xl (xt16 (xt4 (xt1 (xt1 (xt1 (xh))))))))))))) (xc (xt1 (xl (xl (xl (xl (xl (xl (xt16 (xt1 (xh)))))))))) (xc (xt1 (xl (xl (xl (xl (xl (xl (xt16 (xt1 (xt1 (xh))))))))))) (xc (xt1 (xl (xl (xl (xl (xl (xl (xt16 (xt1 (xt1 (xt1 (xh)))))))))))) (xc (xt1 (xl (xl (xl (xl (xl (xl (xt16 (xt4 (xt1 (xh))))))))))) (xc (xt1 (xl (xl (xl (xl (xl (xr (xh)))))))) (xn)))))))))))))))))))))) (fun _ h => xt1 (xl (xl (xl (xr (h))))))) (fun _ h => xt1 (xl (xl (xr (h)))))) (fun _ h => xt1 (xl (xr (h)))))) (by decide +kernel)
set_option maxRecDepth 20000 in
theorem gX9_tallest_X6_greatest : GoodIn wsX9_tallest (wsV RX9 180 RX6 yX6_greatest wsX6_greatest) := goodIn_app (goodIn_sub (xc (xt1 (xl (xl (xl (xl (xl (xr (xt4 (xt4 (xt1 (xt1 (xt1 (xh))))))))))))) (xc (xt1 (xl (xl (xl (xl (xl (xr (xt4 (xt4 (xt4 (xh))))))))))) (xc (xt1 (xl (xl (xl (xl (xl (xr (xt4 (xt4 (xt4 (xt1 (xh)))))))))))) (xc (xt1 (xl (xl (xl (xl (xl (xl (xt4 (xh))))))))) (xn))))) (by decide +kernel)) ggX9_tallest_X6_greatest
theorem dX9_tallest_0 : decode cX9_tallest 0 = .ok (.aload_n 0, 1) := by decide +kernel
theorem dX9_tallest_1 : decode cX9_tallest 1 = .ok (.getfield 51, 3) := by decide +kernel
theorem dX9_tallest_4 : decode cX9_tallest 4 = .ok (.iload_n 1, 1) := by decide +kernel
theorem dX9_tallest_5 : decode cX9_tallest 5 = .ok (.invokevirtual 177, 3) := by decide +kernel
theorem dX9_tallest_8 : decode cX9_tallest 8 = .ok (.iconst 0, 1) := by decide +kernel
theorem dX9_tallest_9 : decode cX9_tallest 9 = .ok (.bipush 12, 2) := by decide +kernel
theorem dX9_tallest_11 : decode cX9_tallest 11 = .ok (.invokestatic 91, 3) := by decide +kernel
theorem dX9_tallest_14 : decode cX9_tallest 14 = .ok (.aload_n 0, 1) := by decide +kernel
theorem dX9_tallest_15 : decode cX9_tallest 15 = .ok (.getfield 51, 3) := by decide +kernel
theorem dX9_tallest_18 : decode cX9_tallest 18 = .ok (.invokevirtual 180, 3) := by decide +kernel
theorem dX9_tallest_21 : decode cX9_tallest 21 = .ok (.ireturn, 1) := by decide +kernel
set_option maxRecDepth 20000 in
theorem ggX9_rate_X9_needIndex : GoodIn wsX9_rate wsX9_needIndex := goodIn_sub (xc (xt1 (xl (xl (xl (xl (xt4 (xh))))))) (xa (xc (xt1 (xl (xl (xl (xl (xt4 (xt1 (xh)))))))) (xc (xt1 (xl (xl (xl (xl (xt4 (xt1 (xt1 (xh))))))))) (xn))) (fun _ h => xt1 (xl (xr (h)))))) (by decide +kernel)
set_option maxRecDepth 20000 in
theorem gX9_rate_X9_needIndex : GoodIn wsX9_rate (va_wsS RX9 106 yX9_needIndex wsX9_needIndex) := goodIn_app (goodIn_sub (xc (xt1 (xl (xl (xl (xl (xt1 (xh))))))) (xc (xt1 (xl (xl (xl (xl (xt1 (xt1 (xh)))))))) (xc (xt1 (xl (xl (xl (xl (xt1 (xt1 (xt1 (xh))))))))) (xn)))) (by decide +kernel)) ggX9_rate_X9_needIndex
set_option maxRecDepth 20000 in
theorem ggX9_rate_X9_needNumber : GoodIn wsX9_rate wsX9_needNumber := goodIn_sub (xc (xt1 (xl (xl (xl (xl (xt4 (xt4 (xt1 (xh))))))))) (xa (xc (xt1 (xl (xl (xl (xl (xt4 (xt4 (xt1 (xt1 (xh)))))))))) (xc (xt1 (xl (xl (xl (xl (xt4 (xt4 (xt1 (xt1 (xt1 (xh))))))))))) (xn))) (fun _ h => xt1 (xr (h))))) (by decide +kernel)
set_option maxRecDepth 20000 in
theorem gX9_rate_X9_needNumber : GoodIn wsX9_rate (va_wsS RX9 91 yX9_needNumber wsX9_needNumber) := goodIn_app (goodIn_sub (xc (xt1 (xl (xl (xl (xl (xt4 (xt1 (xt1 (xt1 (xh)))))))))) (xc (xt1 (xl (xl (xl (xl (xt4 (xt4 (xh)))))))) (xc (xt1 (xl (xl (xl (xl (xt1 (xt1 (xt1 (xh))))))))) (xn)))) (by decide +kernel)) ggX9_rate_X9_needNumber
theorem dX9_rate_0 : decode cX9_rate 0 = .ok (.iload_n 1, 1) := by decide +kernel
theorem dX9_rate_1 : decode cX9_rate 1 = .ok (.bipush 8, 2) := by decide +kernel
theorem dX9_rate_3 : decode cX9_rate 3 = .ok (.invokestatic 106, 3) := by decide +kernel
theorem dX9_rate_6 : decode cX9_rate 6 = .ok (.iload_n 2, 1) := by decide +kernel
theorem dX9_rate_7 : decode cX9_rate 7 = .ok (.iconst 0, 1) := by decide +kernel
theorem dX9_rate_8 : decode cX9_rate 8 = .ok (.sipush 1000, 3) := by decide +kernel
theorem dX9_rate_11 : decode cX9_rate 11 = .ok (.invokestatic 91, 3) := by decide +kernel
theorem dX9_rate_14 : decode cX9_rate 14 = .ok (.aload_n 0, 1) := by decide +kernel
theorem dX9_rate_15 : decode cX9_rate 15 = .ok (.getfield 58, 3) := by decide +kernel
theorem dX9_rate_18 : decode cX9_rate 18 = .ok (.getfield 183, 3) := by decide +kernel
theorem dX9_rate_21 : decode cX9_rate 21 = .ok (.iload_n 1, 1) := by decide +kernel
theorem dX9_rate_22 : decode cX9_rate 22 = .ok (.iload_n 2, 1) := by decide +kernel
theorem dX9_rate_23 : decode cX9_rate 23 = .ok (.iastore, 1) := by decide +kernel
theorem dX9_rate_24 : decode cX9_rate 24 = .ok (.return_, 1) := by decide +kernel
set_option maxRecDepth 20000 in
theorem ggX9_check_X3_readFrom : GoodIn wsX9_check wsX3_readFrom := goodIn_sub (xc (xt1 (xl (xl (xl (xl (xl (xl (xl (xl (xt4 (xt4 (xt1 (xt1 (xh)))))))))))))) (xa (xa (xa (xc (xt1 (xl (xl (xl (xl (xl (xl (xl (xl (xt4 (xt4 (xt1 (xt1 (xt1 (xh))))))))))))))) (xc (xt1 (xl (xl (xl (xl (xl (xl (xl (xl (xt4 (xt4 (xt4 (xh))))))))))))) (xc (xt1 (xl (xl (xl (xl (xl (xl (xl (xl (xt4 (xt4 (xt4 (xt1 (xh)))))))))))))) (xc (xt1 (xl (xl (xl (xl (xl (xl (xl (xl (xt4 (xt4 (xt4 (xt1 (xt1 (xh))))))))))))))) (xc (xt1 (xl (xl (xl (xl (xl (xl (xl (xl (xt4 (xt4 (xt4 (xt1 (xt1 (xt1 (xh)))))))))))))))) (xc (xt1 (xl (xl (xl (xl (xl (xl (xl (xl (xt16 (xh))))))))))) (xc (xt1 (xl (xl (xl (xl (xl (xl (xl (xl (xt16 (xt1 (xh)))))))))))) (xc (xt1 (xl (xl (xl (xl (xl (xl (xl (xl (xt16 (xt1 (xt1 (xh))))))))))))) (xc (xt1 (xl (xl (xl (xl (xl (xl (xl (xl (xt16 (xt1 (xt1 (xt1 (xh)))))))))))))) (xc (xt1 (xl (xl (xl (xl (xl (xl (xl (xl (xt16 (xt4 (xh)))))))))))) (xc (xt1 (xl (xl (xl (xl (xl (xl (xl (xl (xt4 (xt4 (xt1 (xh))))))))))))) (xc (xt1 (xl (xl (xl (xl (xl (xl (xl (xl (xt16 (xt4 (xt1 (xh))))))))))))) (xc (xt1 (xl (xl (xl (xl (xl (xl (xl (xl (xt16 (xt4 (xt1 (xt1 (xh)))))))))))))) (xc (xt1 (xl (xl (xl (xl (xl (xl (xl (xl (xt16 (xt4 (xt1 (xt1 (xt1 (xh))))))))))))))) (xc (xt1 (xl (xl (xl (xl (xl (xl (xl (xr (xl (xh))))))))))) (xc (xt1 (xl (xl (xl (xl (xl (xl (xl (xr (xl (xt1 (xh)))))))))))) (xc (xt1 (xl (xl (xl (xl (xl (xl (xl (xr (xl (xt1 (xt1 (xh))))))))))))) (xc (xt1 (xl (xl (xl (xl (xl (xl (xl (xr (xl (xt1 (xt1 (xt1 (xh)))))))))))))) (xc (xt1 (xl (xl (xl (xl (xl (xl (xl (xr (xl (xt4 (xh)))))))))))) (xc (xt1 (xl (xl (xl (xl (xl (xl (xl (xr (xl (xt4 (xt1 (xh))))))))))))) (xc (xt1 (xl (xl (xl (xl (xl (xl (xl (xr (xl (xt4 (xt1 (xt1 (xh)))))))))))))) (xc (xt1 (xl (xl (xl (xl (xl (xl (xl (xr (xl (xt4 (xt1 (xt1 (xt1 (xh))))))))))))))) (xc (xt1 (xl (xl (xl (xl (xl (xl (xl (xr (xl (xt4 (xt4 (xh))))))))))))) (xc (xt1 (xl (xl (xl (xl (xl (xl (xl (xr (xl (xt4 (xt4 (xt1 (xh)))))))))))))) (xn))))))))))))))))))))))))) (xa (xc (xt1 (xl (xl (xl (xl (xl (xl (xl (xr (xl (xt4 (xt4 (xt1 (xt1 (xh))))))))))))))) (xc (xt1 (xl (xl (xl (xl (xl (xl (xl (xr (xl (xt4 (xt4 (xt1 (xt1 (xt1 (xh)))))))))))))))) (xc (xt1 (xl (xl (xl (xl (xl (xl (xl (xr (xl (xt4 (xt4 (xt4 (xh)))))))))))))) (xc (xt1 (xl (xl (xl (xl (xl (xl (xl (xr (xl (xt4 (xt4 (xt4 (xt1 (xh))))))))))))))) (xc (xt1 (xl (xl (xl (xl (xl (xl (xl (xr (xl (xt4 (xt4 (xt4 (xt1 (xt1 (xh)))))))))))))))) (xc (xt1 (xl (xl (xl (xl (xl (xl (xl (xr (xl (xt4 (xt4 (xt4 (xt1 (xt1 (xt1 (xh))))))))))))))))) (xc (xt1 (xl (xl (xl (xl (xl (xl (xl (xr (xl (xt16 (xh)))))))))))) (xc (xt1 (xl (xl (xl (xl (xl (xl (xl (xr (xl (xt16 (xt1 (xh))))))))))))) (xc (xt1 (xl (xl (xl (xl (xl (xl (xl (xr (xl (xt16 (xt1 (xt1 (xh)))))))))))))) (xc (xt1 (xl (xl (xl (xl (xl (xl (xl (xr (xl (xt16 (xt1 (xt1 (xt1 (xh))))))))))))))) (xc (xt1 (xl (xl (xl (xl (xl (xl (xl (xr (xl (xt16 (xt4 (xh))))))))))))) (xc (xt1 (xl (xl (xl (xl (xl (xl (xl (xr (xl (xt16 (xt4 (xt1 (xh)))))))))))))) (xc (xt1 (xl (xl (xl (xl (xl (xl (xl (xr (xl (xt16 (xt4 (xt1 (xt1 (xh))))))))))))))) (xc (xt1 (xl (xl (xl (xl (xl (xl (xl (xr (xl (xt16 (xt4 (xt1 (xt1 (xt1 (xh)))))))))))))))) (xc (xt1 (xl (xl (xl (xl (xl (xl (xl (xr (xr (xl (xh)))))))))))) (xc (xt1 (xl (xl (xl (xl (xl (xl (xl (xr (xr (xl (xt1 (xh))))))))))))) (xc (xt1 (xl (xl (xl (xl (xl (xl (xl (xr (xr (xl (xt1 (xt1 (xh)))))))))))))) (xc (xt1 (xl (xl (xl (xl (xl (xl (xl (xr (xr (xl (xt1 (xt1 (xt1 (xh))))))))))))))) (xc (xt1 (xl (xl (xl (xl (xl (xl (xl (xr (xr (xl (xt4 (xh))))))))))))) (xc (xt1 (xl (xl (xl (xl (xl (xl (xl (xr (xr (xl (xt4 (xt1 (xh)))))))))))))) (xc (xt1 (xl (xl (xl (xl (xl (xl (xl (xr (xr (xl (xt4 (xt1 (xt1 (xh))))))))))))))) (xc (xt1 (xl (xl (xl (xl (xl (xl (xl (xr (xr (xl (xt4 (xt1 (xt1 (xt1 (xh)))))))))))))))) (xc (xt1 (xl (xl (xl (xl (xl (xl (xl (xr (xr (xl (xt4 (xt4 (xh)))))))))))))) (xc (xt1 (xl (xl (xl (xl (xl (xl (xl (xr (xr (xl (xt4 (xt4 (xt1 (xh))))))))))))))) (xn))))))))))))))))))))))))) (xa (xc (xt1 (xl (xl (xl (xl (xl (xl (xl (xr (xr (xl (xt4 (xt4 (xt1 (xt1 (xh)))))))))))))))) (xc (xt1 (xl (xl (xl (xl (xl (xl (xl (xr (xr (xl (xt4 (xt4 (xt1 (xt1 (xt1 (xh))))))))))))))))) (xc (xt1 (xl (xl (xl (xl (xl (xl (xl (xr (xr (xl (xt4 (xt4 (xt4 (xh))))))))))))))) (xc (xt1 (xl (xl (xl (xl (xl (xl (xl (xr (xr (xl (xt4 (xt4 (xt4 (xt1 (xh)))))))))))))))) (xc (xt1 (xl (xl (xl (xl (xl (xl (xl (xr (xr (xl (xt4 (xt4 (xt4 (xt1 (xt1 (xh))))))))))))))))) (xc (xt1 (xl (xl (xl (xl (xl (xl (xl (xr (xr (xl (xt4 (xt4 (xt4 (xt1 (xt1 (xt1 (xh)))))))))))))))))) (xc (xt1 (xl (xl (xl (xl (xl (xl (xl (xr (xr (xl (xt16 (xh))))))))))))) (xc (xt1 (xl (xl (xl (xl (xl (xl (xl (xr (xr (xl (xt16 (xt1 (xh)))))))))))))) (xc (xt1 (xl (xl (xl (xl (xl (xl (xl (xr (xr (xl (xt16 (xt1 (xt1 (xh))))))))))))))) (xc (xt1 (xl (xl (xl (xl (xl (xl (xl (xr (xr (xl (xt16 (xt1 (xt1 (xt1 (xh)))))))))))))))) (xc (xt1 (xl (xl (xl (xl (xl (xl (xl (xr (xr (xl (xt16 (xt4 (xh)))))))))))))) (xc (xt1 (xl (xl (xl (xl (xl (xl (xl (xr (xr (xl (xt16 (xt4 (xt1 (xh))))))))))))))) (xc (xt1 (xl (xl (xl (xl (xl (xl (xl (xr (xr (xl (xt16 (xt4 (xt1 (xt1 (xh)))))))))))))))) (xc (xt1 (xl (xl (xl (xl (xl (xl (xl (xr (xr (xl (xt16 (xt4 (xt1 (xt1 (xt1 (xh))))))))))))))))) (xc (xt1 (xl (xl (xl (xl (xl (xl (xl (xr (xr (xr (xl (xh))))))))))))) (xc (xt1 (xl (xl (xl (xl (xl (xl (xl (xr (xr (xr (xl (xt1 (xh)))))))))))))) (xc (xt1 (xl (xl (xl (xl (xl (xl (xl (xr (xr (xr (xl (xt1 (xt1 (xh))))))))))))))) (xc (xt1 (xl (xl (xl (xl (xl (xl (xl (xr (xr (xr (xl (xt1 (xt1 (xt1 (xh)))))))))))))))) (xc (xt1 (xl (xl (xl (xl (xl (xl (xl (xr (xr (xr (xl (xt4 (xh)))))))))))))) (xc (xt1 (xl (xl (xl (xl (xl (xl (xl (xr (xr (xr (xl (xt4 (xt1 (xh))))))))))))))) (xc (xt1 (xl (xl (xl (xl (xl (xl (xl (xr (xr (xr (xl (xt4 (xt1 (xt1 (xh)))))))))))))))) (xc (xt1 (xl (xl (xl (xl (xl (xl (xl (xr (xr (xr (xl (xt4 (xt1 (xt1 (xt1 (xh))))))))))))))))) (xc (xt1 (xl (xl (xl (xl (xl (xl (xl (xr (xr (xr (xl (xt4 (xt4 (xh))))))))))))))) (xc (xt1 (xl (xl (xl (xl (xl (xl (xl (xr (xr (xr (xl (xt4 (xt4 (xt1 (xh)))))))))))))))) (xn))))))))))))))))))))))))) (xc (xt1 (xl (xl (xl (xl (xl (xl (xl (xr (xr (xr (xl (xt4 (xt4 (xt1 (xt1 (xh))))))))))))))))) (xn))))) (fun _ h => xt1 (xl (xl (xl (xl (xl (xr (h))))))))) (fun _ h => xt1 (xl (xl (xl (xl (xr (h))))))))) (by decide +kernel)
set_option maxRecDepth 20000 in
theorem gX9_check_X3_readFrom : GoodIn wsX9_check (wsV RX9 186 RX3 yX3_readFrom wsX3_readFrom) := goodIn_app (goodIn_sub (xc (xt1 (xl (xl (xl (xl (xl (xl (xl (xl (xt4 (xt1 (xt1 (xh))))))))))))) (xc (xt1 (xl (xl (xl (xl (xl (xl (xl (xl (xt4 (xt1 (xt1 (xt1 (xh)))))))))))))) (xc (xt1 (xl (xl (xl (xl (xl (xl (xl (xl (xt4 (xt4 (xh)))))))))))) (xc (xt1 (xl (xl (xl (xl (xl (xl (xl (xl (xt4 (xt4 (xt1 (xh))))))))))))) (xn))))) (by decide +kernel)) ggX9_check_X3_readFrom
set_option maxRecDepth 20000 in
theorem ggX9_check_X7_clear : GoodIn wsX9_check wsX7_clear := goodIn_sub (xc (xt1 (xl (xl (xl (xl (xl (xl (xl (xr (xr (xr (xl (xt4 (xt4 (xt4 (xt1 (xt1 (xh)))))))))))))))))) (xa (xc (xt1 (xl (xl (xl (xl (xl (xl (xl (xl (xt16 (xt1 (xh)))))))))))) (xn)) (fun _ h => xt1 (xl (xl (xl (xl (xr (h))))))))) (by decide +kernel)
set_option maxRecDepth 20000 in
theorem gX9_check_X7_clear : GoodIn wsX9_check (wsV RX9 190 RX7 yX7_clear wsX7_clear) := goodIn_app (goodIn_sub (xc (xt1 (xl (xl (xl (xl (xl (xl (xl (xr (xr (xr (xl (xt4 (xt4 (xt1 (xt1 (xt1 (xh)))))))))))))))))) (xc (xt1 (xl (xl (xl (xl (xl (xl (xl (xr (xr (xr (xl (xt4 (xt4 (xt4 (xh)))))))))))))))) (xc (xt1 (xl (xl (xl (xl (xl (xl (xl (xr (xr (xr (xl (xt4 (xt4 (xt4 (xt1 (xh))))))))))))))))) (xc (xt1 (xl (xl (xl (xl (xl (xl (xl (xl (xt4 (xt4 (xt4 (xt1 (xt1 (xt1 (xh)))))))))))))))) (xn))))) (by decide +kernel)) ggX9_check_X7_clear
set_option maxRecDepth 20000 in
theorem ggX9_check_X9_needIndex : GoodIn wsX9_check wsX9_needIndex := goodIn_sub (xc (xt1 (xl (xl (xl (xl (xl (xl (xl (xr (xr (xr (xl (xt16 (xt1 (xt1 (xh)))))))))))))))) (xa (xc (xt1 (xl (xl (xl (xl (xl (xl (xl (xr (xr (xr (xl (xt16 (xt1 (xt1 (xt1 (xh))))))))))))))))) (xc (xt1 (xl (xl (xl (xl (xl (xl (xl (xr (xr (xr (xl (xt16 (xt4 (xh))))))))))))))) (xn))) (fun _ h => xt1 (xr (h))))) (by decide +kernel)
set_option maxRecDepth 20000 in
theorem gX9_check_X9_needIndex : GoodIn wsX9_check (va_wsS RX9 106 yX9_needIndex wsX9_needIndex) := goodIn_app (goodIn_sub (xc (xt1 (xl (xl (xl (xl (xl (xl (xl (xr (xr (xr (xl (xt4 (xt4 (xt4 (xt1 (xt1 (xt1 (xh))))))))))))))))))) (xc (xt1 (xl (xl (xl (xl (xl (xl (xl (xr (xr (xr (xl (xt16 (xh)))))))))))))) (xc (xt1 (xl (xl (xl (xl (xl (xl (xl (xr (xr (xr (xl (xt16 (xt1 (xh))))))))))))))) (xn)))) (by decide +kernel)) ggX9_check_X9_needIndex
set_option maxRecDepth 20000 in
theorem ggX9_check_X9_falsehoodAt : GoodIn wsX9_check wsX9_falsehoodAt := goodIn_sub (xc (xt1 (xl (xl (xl (xl (xl (xl (xl (xr (xr (xr (xr (xh))))))))))))) (xa (xa (xa (xa (xc (xt1 (xl (xl (xl (xl (xl (xl (xl (xl (xt1 (xt1 (xh)))))))))))) (xc (xt1 (xl (xl (xl (xl (xl (xl (xl (xr (xr (xr (xr (xt1 (xh)))))))))))))) (xc (xt1 (xl (xl (xl (xl (xl (xl (xl (xl (xt4 (xt1 (xh)))))))))))) (xc (xt1 (xl (xl (xl (xl (xl (xl (xl (xr (xr (xr (xr (xt1 (xt1 (xh))))))))))))))) (xc (xt1 (xl (xl (xl (xl (xl (xl (xl (xr (xr (xr (xr (xt1 (xt1 (xt1 (xh)))))))))))))))) (xc (xt1 (xl (xl (xl (xl (xl (xl (xl (xr (xr (xr (xr (xt4 (xh)))))))))))))) (xc (xt1 (xl (xl (xl (xl (xl (xl (xl (xr (xr (xr (xr (xt4 (xt1 (xh))))))))))))))) (xc (xt1 (xl (xl (xl (xl (xl (xl (xl (xr (xr (xr (xr (xt4 (xt1 (xt1 (xh)))))))))))))))) (xc (xt1 (xl (xl (xl (xl (xl (xl (xl (xr (xr (xr (xr (xt4 (xt1 (xt1 (xt1 (xh))))))))))))))))) (xn)))))))))) (fun _ h => xt1 (xl (xl (xl (xl (xl (xl (xr (h)))))))))) (fun _ h => xt1 (xl (xl (xl (xl (xl (xr (h))))))))) (fun _ h => xt1 (xl (xl (xl (xr (h))))))) (fun _ h => xt1 (xl (xl (xr (h))))))) (by decide +kernel)
set_option maxRecDepth 20000 in
theorem gX9_check_X9_falsehoodAt : GoodIn wsX9_check (wsV RX9 198 RX9 yX9_falsehoodAt wsX9_falsehoodAt) := goodIn_app (goodIn_sub (xc (xt1 (xl (xl (xl (xl (xl (xl (xl (xr (xr (xr (xl (xt16 (xt4 (xt1 (xh)))))))))))))))) (xc (xt1 (xl (xl (xl (xl (xl (xl (xl (xr (xr (xr (xl (xt16 (xt4 (xt1 (xt1 (xh))))))))))))))))) (xc (xt1 (xl (xl (xl (xl (xl (xl (xl (xr (xr (xr (xl (xt16 (xt4 (xt1 (xt1 (xt1 (xh)))))))))))))))))) (xc (xt1 (xl (xl (xl (xl (xl (xl (xl (xr (xr (xr (xl (xt16 (xt1 (xh))))))))))))))) (xn))))) (by decide +kernel)) ggX9_check_X9_falsehoodAt
set_option maxRecDepth 20000 in
theorem ggX9_check_X4_countNote : GoodIn wsX9_check wsX4_countNote := goodIn_sub (xc (xt1 (xl (xl (xl (xl (xl (xl (xl (xr (xr (xr (xr (xt4 (xt4 (xt1 (xt1 (xt1 (xh)))))))))))))))))) (xa (xc (xt1 (xl (xl (xl (xl (xl (xl (xl (xr (xr (xr (xr (xt4 (xt4 (xt4 (xh)))))))))))))))) (xc (xt1 (xl (xl (xl (xl (xl (xl (xl (xr (xr (xr (xr (xt4 (xt4 (xt4 (xt1 (xh))))))))))))))))) (xn))) (fun _ h => xt1 (xl (xl (xr (h))))))) (by decide +kernel)
set_option maxRecDepth 20000 in
theorem gX9_check_X4_countNote : GoodIn wsX9_check (wsV RX9 201 RX4 yX4_countNote wsX4_countNote) := goodIn_app (goodIn_sub (xc (xt1 (xl (xl (xl (xl (xl (xl (xl (xr (xr (xr (xr (xt4 (xt4 (xh))))))))))))))) (xc (xt1 (xl (xl (xl (xl (xl (xl (xl (xr (xr (xr (xr (xt4 (xt4 (xt1 (xh)))))))))))))))) (xc (xt1 (xl (xl (xl (xl (xl (xl (xl (xr (xr (xr (xr (xt4 (xt4 (xt1 (xt1 (xh))))))))))))))))) (xc (xt1 (xl (xl (xl (xl (xl (xl (xl (xr (xr (xr (xr (xt4 (xt1 (xh))))))))))))))) (xn))))) (by decide +kernel)) ggX9_check_X4_countNote
theorem dX9_check_0 : decode cX9_check 0 = .ok (.aload_n 0, 1) := by decide +kernel
theorem dX9_check_1 : decode cX9_check 1 = .ok (.getfield 19, 3) := by decide +kernel
theorem dX9_check_4 : decode cX9_check 4 = .ok (.aload_n 0, 1) := by decide +kernel
theorem dX9_check_5 : decode cX9_check 5 = .ok (.getfield 10, 3) := by decide +kernel
theorem dX9_check_8 : decode cX9_check 8 = .ok (.invokevirtual 186, 3) := by decide +kernel
theorem dX9_check_11 : decode cX9_check 11 = .ok (.istore_n 2, 1) := by decide +kernel
theorem dX9_check_12 : decode cX9_check 12 = .ok (.aload_n 0, 1) := by decide +kernel
theorem dX9_check_13 : decode cX9_check 13 = .ok (.getfield 10, 3) := by decide +kernel
theorem dX9_check_16 : decode cX9_check 16 = .ok (.invokevirtual 190, 3) := by decide +kernel
theorem dX9_check_19 : decode cX9_check 19 = .ok (.iload_n 1, 1) := by decide +kernel
theorem dX9_check_20 : decode cX9_check 20 = .ok (.bipush 8, 2) := by decide +kernel
theorem dX9_check_22 : decode cX9_check 22 = .ok (.invokestatic 106, 3) := by decide +kernel
theorem dX9_check_25 : decode cX9_check 25 = .ok (.aload_n 0, 1) := by decide +kernel
theorem dX9_check_26 : decode cX9_check 26 = .ok (.iload_n 2, 1) := by decide +kernel
theorem dX9_check_27 : decode cX9_check 27 = .ok (.putfield 76, 3) := by decide +kernel
theorem dX9_check_30 : decode cX9_check 30 = .ok (.iload_n 2, 1) := by decide +kernel
theorem dX9_check_31 : decode cX9_check 31 = .ok (.iconst (-1), 1) := by decide +kernel
theorem dX9_check_32 : decode cX9_check 32 = .ok (.if_icmp .eq 13, 3) := by decide +kernel
theorem dX9_check_35 : decode cX9_check 35 = .ok (.new 193, 3) := by decide +kernel
theorem dX9_check_38 : decode cX9_check 38 = .ok (.dup, 1) := by decide +kernel
theorem dX9_check_39 : decode cX9_check 39 = .ok (.ldc 195, 2) := by decide +kernel
theorem dX9_check_41 : decode cX9_check 41 = .ok (.invokespecial 197, 3) := by decide +kernel
theorem dX9_check_44 : decode cX9_check 44 = .ok (.athrow, 1) := by decide +kernel
theorem dX9_check_45 : decode cX9_check 45 = .ok (.aload_n 0, 1) := by decide +kernel
theorem dX9_check_46 : decode cX9_check 46 = .ok (.iload_n 1, 1) := by decide +kernel
theorem dX9_check_47 : decode cX9_check 47 = .ok (.invokevirtual 198, 3) := by decide +kernel
theorem dX9_check_50 : decode cX9_check 50 = .ok (.istore_n 3, 1) := by decide +kernel
theorem dX9_check_51 : decode cX9_check 51 = .ok (.aload_n 0, 1) := by decide +kernel
theorem dX9_check_52 : decode cX9_check 52 = .ok (.getfield 58, 3) := by decide +kernel
theorem dX9_check_55 : decode cX9_check 55 = .ok (.iload_n 1, 1) := by decide +kernel
theorem dX9_check_56 : decode cX9_check 56 = .ok (.iload_n 3, 1) := by decide +kernel
theorem dX9_check_57 : decode cX9_check 57 = .ok (.ifCond .eq 7, 3) := by decide +kernel
theorem dX9_check_60 : decode cX9_check 60 = .ok (.iconst 1, 1) := by decide +kernel
theorem dX9_check_61 : decode cX9_check 61 = .ok (.goto 4, 3) := by decide +kernel
theorem dX9_check_64 : decode cX9_check 64 = .ok (.iconst 0, 1) := by decide +kernel
theorem dX9_check_65 : decode cX9_check 65 = .ok (.invokevirtual 201, 3) := by decide +kernel
theorem dX9_check_68 : decode cX9_check 68 = .ok (.iload_n 3, 1) := by decide +kernel
theorem dX9_check_69 : decode cX9_check 69 = .ok (.ireturn, 1) := by decide +kernel
theorem dX9_fault_0 : decode cX9_fault 0 = .ok (.aload_n 0, 1) := by decide +kernel
theorem dX9_fault_1 : decode cX9_fault 1 = .ok (.getfield 76, 3) := by decide +kernel
theorem dX9_fault_4 : decode cX9_fault 4 = .ok (.ireturn, 1) := by decide +kernel
set_option maxRecDepth 20000 in
theorem ggX9_notes_X9_needIndex : GoodIn wsX9_notes wsX9_needIndex := goodIn_sub (xc (xt1 (xl (xl (xl (xt4 (xh)))))) (xa (xc (xt1 (xl (xl (xl (xt4 (xt1 (xh))))))) (xc (xt1 (xl (xl (xl (xt4 (xt1 (xt1 (xh)))))))) (xn))) (fun _ h => xt1 (xr (h))))) (by decide +kernel)
set_option maxRecDepth 20000 in
theorem gX9_notes_X9_needIndex : GoodIn wsX9_notes (va_wsS RX9 106 yX9_needIndex wsX9_needIndex) := goodIn_app (goodIn_sub (xc (xt1 (xl (xl (xl (xt1 (xh)))))) (xc (xt1 (xl (xl (xl (xt1 (xt1 (xh))))))) (xc (xt1 (xl (xl (xl (xt1 (xt1 (xt1 (xh)))))))) (xn)))) (by decide +kernel)) ggX9_notes_X9_needIndex
theorem dX9_notes_0 : decode cX9_notes 0 = .ok (.iload_n 1, 1) := by decide +kernel
theorem dX9_notes_1 : decode cX9_notes 1 = .ok (.bipush 8, 2) := by decide +kernel
theorem dX9_notes_3 : decode cX9_notes 3 = .ok (.invokestatic 106, 3) := by decide +kernel
theorem dX9_notes_6 : decode cX9_notes 6 = .ok (.iload_n 2, 1) := by decide +kernel
theorem dX9_notes_7 : decode cX9_notes 7 = .ok (.ifCond .eq 15, 3) := by decide +kernel
theorem dX9_notes_10 : decode cX9_notes 10 = .ok (.aload_n 0, 1) := by decide +kernel
theorem dX9_notes_11 : decode cX9_notes 11 = .ok (.getfield 58, 3) := by decide +kernel
theorem dX9_notes_14 : decode cX9_notes 14 = .ok (.getfield 205, 3) := by decide +kernel
theorem dX9_notes_17 : decode cX9_notes 17 = .ok (.iload_n 1, 1) := by decide +kernel
theorem dX9_notes_18 : decode cX9_notes 18 = .ok (.iaload, 1) := by decide +kernel
theorem dX9_notes_19 : decode cX9_notes 19 = .ok (.goto 12, 3) := by decide +kernel
theorem dX9_notes_22 : decode cX9_notes 22 = .ok (.aload_n 0, 1) := by decide +kernel
theorem dX9_notes_23 : decode cX9_notes 23 = .ok (.getfield 58, 3) := by decide +kernel
theorem dX9_notes_26 : decode cX9_notes 26 = .ok (.getfield 208, 3) := by decide +kernel
theorem dX9_notes_29 : decode cX9_notes 29 = .ok (.iload_n 1, 1) := by decide +kernel
theorem dX9_notes_30 : decode cX9_notes 30 = .ok (.iaload, 1) := by decide +kernel
theorem dX9_notes_31 : decode cX9_notes 31 = .ok (.ireturn, 1) := by decide +kernel
set_option maxRecDepth 20000 in
theorem ggX9_sherd_X9_needNumber : GoodIn wsX9_sherd wsX9_needNumber := goodIn_sub (xc (xt1 (xl (xl (xl (xl (xl (xl (xt4 (xh))))))))) (xa (xc (xt1 (xl (xl (xl (xl (xl (xl (xt4 (xt1 (xh)))))))))) (xc (xt1 (xl (xl (xl (xl (xl (xl (xt4 (xt1 (xt1 (xh))))))))))) (xn))) (fun _ h => xt1 (xl (xl (xr (h))))))) (by decide +kernel)
set_option maxRecDepth 20000 in
theorem gX9_sherd_X9_needNumber : GoodIn wsX9_sherd (va_wsS RX9 91 yX9_needNumber wsX9_needNumber) := goodIn_app (goodIn_sub (xc (xt1 (xl (xl (xl (xl (xl (xl (xt1 (xh))))))))) (xc (xt1 (xl (xl (xl (xl (xl (xl (xt1 (xt1 (xh)))))))))) (xc (xt1 (xl (xl (xl (xl (xl (xl (xt1 (xt1 (xt1 (xh))))))))))) (xn)))) (by decide +kernel)) ggX9_sherd_X9_needNumber
set_option maxRecDepth 20000 in
theorem ggX9_sherd_X9_needStampOrNone : GoodIn wsX9_sherd wsX9_needStampOrNone := goodIn_sub (xc (xt1 (xl (xl (xl (xl (xl (xl (xt4 (xt4 (xt1 (xh))))))))))) (xa (xc (xt1 (xl (xl (xl (xl (xl (xl (xt4 (xt4 (xt1 (xt1 (xh)))))))))))) (xc (xt1 (xl (xl (xl (xl (xl (xl (xt4 (xt4 (xt1 (xt1 (xt1 (xh))))))))))))) (xc (xt1 (xl (xl (xl (xl (xl (xl (xt1 (xt1 (xt1 (xh))))))))))) (xc (xt1 (xl (xl (xl (xl (xl (xl (xt4 (xt4 (xt4 (xh))))))))))) (xc (xt1 (xl (xl (xl (xl (xl (xl (xt4 (xt4 (xt4 (xt1 (xh)))))))))))) (xc (xt1 (xl (xl (xl (xl (xl (xl (xt4 (xt4 (xt4 (xt1 (xt1 (xh))))))))))))) (xn))))))) (fun _ h => xt1 (xl (xr (h)))))) (by decide +kernel)
set_option maxRecDepth 20000 in
theorem gX9_sherd_X9_needStampOrNone : GoodIn wsX9_sherd (va_wsS RX9 211 yX9_needStampOrNone wsX9_needStampOrNone) := goodIn_app (goodIn_sub (xc (xt1 (xl (xl (xl (xl (xl (xl (xt4 (xt1 (xt1 (xt1 (xh)))))))))))) (xc (xt1 (xl (xl (xl (xl (xl (xl (xt4 (xt4 (xh)))))))))) (xc (xt1 (xl (xl (xl (xl (xl (xl (xt1 (xt1 (xt1 (xh))))))))))) (xn)))) (by decide +kernel)) ggX9_sherd_X9_needStampOrNone
set_option maxRecDepth 20000 in
theorem ggX9_sherd_X9_needPlace : GoodIn wsX9_sherd wsX9_needPlace := goodIn_sub (xc (xt1 (xl (xl (xl (xl (xl (xl (xt16 (xt1 (xh)))))))))) (xa (xc (xt1 (xl (xl (xl (xl (xl (xl (xt16 (xt1 (xt1 (xh))))))))))) (xc (xt1 (xl (xl (xl (xl (xl (xl (xt16 (xt1 (xt1 (xt1 (xh)))))))))))) (xn))) (fun _ h => xt1 (xr (h))))) (by decide +kernel)
set_option maxRecDepth 20000 in
theorem gX9_sherd_X9_needPlace : GoodIn wsX9_sherd (va_wsS RX9 98 yX9_needPlace wsX9_needPlace) := goodIn_app (goodIn_sub (xc (xt1 (xl (xl (xl (xl (xl (xl (xt4 (xt4 (xt4 (xt1 (xt1 (xt1 (xh)))))))))))))) (xc (xt1 (xl (xl (xl (xl (xl (xl (xt16 (xh))))))))) (xc (xt1 (xl (xl (xl (xl (xl (xl (xt1 (xt1 (xt1 (xh))))))))))) (xn)))) (by decide +kernel)) ggX9_sherd_X9_needPlace
set_option maxRecDepth 20000 in
theorem ggX9_sherd_X5_add : GoodIn wsX9_sherd wsX5_add := goodIn_sub (xc (xt1 (xl (xl (xl (xl (xl (xr (xh)))))))) (xa (xc (xt1 (xl (xl (xl (xl (xl (xr (xt1 (xh))))))))) (xc (xt1 (xl (xl (xl (xl (xl (xr (xt1 (xt1 (xh)))))))))) (xc (xt1 (xl (xl (xl (xl (xl (xr (xt1 (xt1 (xt1 (xh))))))))))) (xc (xt1 (xl (xl (xl (xl (xl (xr (xt4 (xh))))))))) (xc (xt1 (xl (xl (xl (xl (xl (xr (xt4 (xt1 (xh)))))))))) (xn)))))) (fun _ h => xt1 (xl (xl (xl (xr (h)))))))) (by decide +kernel)
set_option maxRecDepth 20000 in
theorem gX9_sherd_X5_add : GoodIn wsX9_sherd (wsV RX9 216 RX5 yX5_add wsX5_add) := goodIn_app (goodIn_sub (xc (xt1 (xl (xl (xl (xl (xl (xl (xt16 (xt4 (xh)))))))))) (xc (xt1 (xl (xl (xl (xl (xl (xl (xt16 (xt4 (xt1 (xh))))))))))) (xc (xt1 (xl (xl (xl (xl (xl (xl (xt16 (xt4 (xt1 (xt1 (xh)))))))))))) (xc (xt1 (xl (xl (xl (xl (xl (xl (xt16 (xt4 (xt1 (xt1 (xt1 (xh))))))))))))) (xn))))) (by decide +kernel)) ggX9_sherd_X5_add
theorem dX9_sherd_0 : decode cX9_sherd 0 = .ok (.iload_n 1, 1) := by decide +kernel
theorem dX9_sherd_1 : decode cX9_sherd 1 = .ok (.iconst 0, 1) := by decide +kernel
theorem dX9_sherd_2 : decode cX9_sherd 2 = .ok (.bipush 15, 2) := by decide +kernel
theorem dX9_sherd_4 : decode cX9_sherd 4 = .ok (.invokestatic 91, 3) := by decide +kernel
theorem dX9_sherd_7 : decode cX9_sherd 7 = .ok (.iload_n 2, 1) := by decide +kernel
theorem dX9_sherd_8 : decode cX9_sherd 8 = .ok (.invokestatic 211, 3) := by decide +kernel
theorem dX9_sherd_11 : decode cX9_sherd 11 = .ok (.aload_n 0, 1) := by decide +kernel
theorem dX9_sherd_12 : decode cX9_sherd 12 = .ok (.getfield 65, 3) := by decide +kernel
theorem dX9_sherd_15 : decode cX9_sherd 15 = .ok (.getfield 215, 3) := by decide +kernel
theorem dX9_sherd_18 : decode cX9_sherd 18 = .ok (.bipush 60, 2) := by decide +kernel
theorem dX9_sherd_20 : decode cX9_sherd 20 = .ok (.invokestatic 98, 3) := by decide +kernel
theorem dX9_sherd_23 : decode cX9_sherd 23 = .ok (.aload_n 0, 1) := by decide +kernel
theorem dX9_sherd_24 : decode cX9_sherd 24 = .ok (.getfield 65, 3) := by decide +kernel
theorem dX9_sherd_27 : decode cX9_sherd 27 = .ok (.iload_n 1, 1) := by decide +kernel
theorem dX9_sherd_28 : decode cX9_sherd 28 = .ok (.iload_n 2, 1) := by decide +kernel
theorem dX9_sherd_29 : decode cX9_sherd 29 = .ok (.invokevirtual 216, 3) := by decide +kernel
theorem dX9_sherd_32 : decode cX9_sherd 32 = .ok (.ireturn, 1) := by decide +kernel
set_option maxRecDepth 20000 in
theorem ggX9_join_X9_needIndex : GoodIn wsX9_join wsX9_needIndex := goodIn_sub (xc (xt1 (xl (xl (xl (xl (xt4 (xh))))))) (xa (xc (xt1 (xl (xl (xl (xl (xt4 (xt1 (xh)))))))) (xc (xt1 (xl (xl (xl (xl (xt4 (xt1 (xt1 (xh))))))))) (xn))) (fun _ h => xt1 (xr (h))))) (by decide +kernel)
set_option maxRecDepth 20000 in
theorem gX9_join_X9_needIndex : GoodIn wsX9_join (va_wsS RX9 106 yX9_needIndex wsX9_needIndex) := goodIn_app (goodIn_sub (xc (xt1 (xl (xl (xl (xl (xt1 (xh))))))) (xc (xt1 (xl (xl (xl (xl (xt1 (xt1 (xh)))))))) (xc (xt1 (xl (xl (xl (xl (xt1 (xt1 (xt1 (xh))))))))) (xn)))) (by decide +kernel)) ggX9_join_X9_needIndex
set_option maxRecDepth 20000 in
theorem ggX9_join_X5_unite : GoodIn wsX9_join wsX5_unite := goodIn_sub (xc (xt1 (xl (xl (xl (xl (xt4 (xt4 (xt1 (xt1 (xt1 (xh))))))))))) (xa (xc (xt1 (xl (xl (xl (xl (xt4 (xt4 (xt4 (xh))))))))) (xc (xt1 (xl (xl (xl (xl (xt4 (xt4 (xt4 (xt1 (xh)))))))))) (xc (xt1 (xl (xl (xl (xl (xt4 (xt4 (xt4 (xt1 (xt1 (xh))))))))))) (xc (xt1 (xl (xl (xl (xl (xt4 (xt4 (xt4 (xt1 (xt1 (xt1 (xh)))))))))))) (xc (xt1 (xl (xl (xl (xl (xt16 (xh))))))) (xc (xt1 (xl (xl (xl (xl (xt16 (xt1 (xh)))))))) (xc (xt1 (xl (xl (xl (xl (xt16 (xt1 (xt1 (xh))))))))) (xc (xt1 (xl (xl (xl (xl (xt16 (xt1 (xt1 (xt1 (xh)))))))))) (xc (xt1 (xl (xl (xl (xl (xt16 (xt4 (xh)))))))) (xc (xt1 (xl (xl (xl (xl (xt16 (xt4 (xt1 (xh))))))))) (xc (xt1 (xl (xl (xl (xl (xt16 (xt4 (xt1 (xt1 (xh)))))))))) (xc (xt1 (xl (xl (xl (xl (xt16 (xt4 (xt1 (xt1 (xt1 (xh))))))))))) (xc (xt1 (xl (xl (xl (xr (xh)))))) (xc (xt1 (xl (xl (xl (xr (xt1 (xh))))))) (xc (xt1 (xl (xl (xl (xl (xt4 (xt4 (xt1 (xt1 (xh)))))))))) (xc (xt1 (xl (xl (xl (xr (xt1 (xt1 (xh)))))))) (xc (xt1 (xl (xl (xl (xr (xt1 (xt1 (xt1 (xh))))))))) (xn)))))))))))))))))) (fun _ h => xt1 (xl (xr (h)))))) (by decide +kernel)
set_option maxRecDepth 20000 in
theorem gX9_join_X5_unite : GoodIn wsX9_join (wsV RX9 218 RX5 yX5_unite wsX5_unite) := goodIn_app (goodIn_sub (xc (xt1 (xl (xl (xl (xl (xt4 (xt1 (xt1 (xt1 (xh)))))))))) (xc (xt1 (xl (xl (xl (xl (xt4 (xt4 (xh)))))))) (xc (xt1 (xl (xl (xl (xl (xt4 (xt4 (xt1 (xh))))))))) (xc (xt1 (xl (xl (xl (xl (xt4 (xt4 (xt1 (xt1 (xh)))))))))) (xn))))) (by decide +kernel)) ggX9_join_X5_unite
theorem dX9_join_0 : decode cX9_join 0 = .ok (.iload_n 1, 1) := by decide +kernel
theorem dX9_join_1 : decode cX9_join 1 = .ok (.aload_n 0, 1) := by decide +kernel
theorem dX9_join_2 : decode cX9_join 2 = .ok (.getfield 65, 3) := by decide +kernel
theorem dX9_join_5 : decode cX9_join 5 = .ok (.getfield 215, 3) := by decide +kernel
theorem dX9_join_8 : decode cX9_join 8 = .ok (.invokestatic 106, 3) := by decide +kernel
theorem dX9_join_11 : decode cX9_join 11 = .ok (.iload_n 2, 1) := by decide +kernel
theorem dX9_join_12 : decode cX9_join 12 = .ok (.aload_n 0, 1) := by decide +kernel
theorem dX9_join_13 : decode cX9_join 13 = .ok (.getfield 65, 3) := by decide +kernel
theorem dX9_join_16 : decode cX9_join 16 = .ok (.getfield 215, 3) := by decide +kernel
theorem dX9_join_19 : decode cX9_join 19 = .ok (.invokestatic 106, 3) := by decide +kernel
theorem dX9_join_22 : decode cX9_join 22 = .ok (.aload_n 0, 1) := by decide +kernel
theorem dX9_join_23 : decode cX9_join 23 = .ok (.getfield 65, 3) := by decide +kernel
theorem dX9_join_26 : decode cX9_join 26 = .ok (.iload_n 1, 1) := by decide +kernel
theorem dX9_join_27 : decode cX9_join 27 = .ok (.iload_n 2, 1) := by decide +kernel
theorem dX9_join_28 : decode cX9_join 28 = .ok (.invokevirtual 218, 3) := by decide +kernel
theorem dX9_join_31 : decode cX9_join 31 = .ok (.ireturn, 1) := by decide +kernel
set_option maxRecDepth 20000 in
theorem ggX9_vessels_X9_needStampOrNone : GoodIn wsX9_vessels wsX9_needStampOrNone := goodIn_sub (xc (xt1 (xl (xl (xl (xt4 (xh)))))) (xa (xc (xt1 (xl (xl (xl (xt4 (xt1 (xh))))))) (xc (xt1 (xl (xl (xl (xt4 (xt1 (xt1 (xh)))))))) (xc (xt1 (xl (xl (xl (xt1 (xt1 (xt1 (xh)))))))) (xc (xt1 (xl (xl (xl (xt4 (xt1 (xt1 (xt1 (xh))))))))) (xc (xt1 (xl (xl (xl (xt4 (xt4 (xh))))))) (xc (xt1 (xl (xl (xl (xt4 (xt4 (xt1 (xh)))))))) (xn))))))) (fun _ h => xt1 (xr (h))))) (by decide +kernel)
set_option maxRecDepth 20000 in
theorem gX9_vessels_X9_needStampOrNone : GoodIn wsX9_vessels (va_wsS RX9 211 yX9_needStampOrNone wsX9_needStampOrNone) := goodIn_app (goodIn_sub (xc (xt1 (xl (xl (xl (xt1 (xh)))))) (xc (xt1 (xl (xl (xl (xt1 (xt1 (xh))))))) (xc (xt1 (xl (xl (xl (xt1 (xt1 (xt1 (xh)))))))) (xn)))) (by decide +kernel)) ggX9_vessels_X9_needStampOrNone
set_option maxRecDepth 20000 in
theorem ggX9_vessels_X5_allVessels : GoodIn wsX9_vessels wsX5_allVessels := goodIn_sub (xc (xt1 (xl (xl (xl (xt4 (xt4 (xt4 (xt1 (xt1 (xh)))))))))) (xa (xc (xt1 (xl (xl (xl (xt4 (xt4 (xt4 (xt1 (xt1 (xt1 (xh))))))))))) (xc (xt1 (xl (xl (xl (xt16 (xh)))))) (xn))) (fun _ h => xt1 (xl (xr (h)))))) (by decide +kernel)
set_option maxRecDepth 20000 in
theorem gX9_vessels_X5_allVessels : GoodIn wsX9_vessels (wsV RX9 221 RX5 yX5_allVessels wsX5_allVessels) := goodIn_app (goodIn_sub (xc (xt1 (xl (xl (xl (xt4 (xt4 (xt1 (xt1 (xh))))))))) (xc (xt1 (xl (xl (xl (xt4 (xt4 (xt1 (xt1 (xt1 (xh)))))))))) (xc (xt1 (xl (xl (xl (xt4 (xt4 (xt4 (xh)))))))) (xc (xt1 (xl (xl (xl (xt4 (xt4 (xt4 (xt1 (xh))))))))) (xn))))) (by decide +kernel)) ggX9_vessels_X5_allVessels
set_option maxRecDepth 20000 in
theorem ggX9_vessels_X5_vesselsWith : GoodIn wsX9_vessels wsX5_vesselsWith := goodIn_sub (xc (xt1 (xl (xl (xl (xt16 (xt4 (xh))))))) (xa (xc (xt1 (xl (xl (xl (xt4 (xt4 (xt4 (xt1 (xt1 (xt1 (xh))))))))))) (xc (xt1 (xl (xl (xl (xt16 (xh)))))) (xc (xt1 (xl (xl (xl (xt16 (xt4 (xt1 (xh)))))))) (xn)))) (fun _ h => xt1 (xl (xr (h)))))) (by decide +kernel)
set_option maxRecDepth 20000 in
theorem gX9_vessels_X5_vesselsWith : GoodIn wsX9_vessels (wsV RX9 224 RX5 yX5_vesselsWith wsX5_vesselsWith) := goodIn_app (goodIn_sub (xc (xt1 (xl (xl (xl (xt16 (xt1 (xh))))))) (xc (xt1 (xl (xl (xl (xt16 (xt1 (xt1 (xh)))))))) (xc (xt1 (xl (xl (xl (xt16 (xt1 (xt1 (xt1 (xh))))))))) (xc (xt1 (xl (xl (xl (xt4 (xt4 (xt4 (xt1 (xh))))))))) (xn))))) (by decide +kernel)) ggX9_vessels_X5_vesselsWith
theorem dX9_vessels_0 : decode cX9_vessels 0 = .ok (.iload_n 1, 1) := by decide +kernel
theorem dX9_vessels_1 : decode cX9_vessels 1 = .ok (.invokestatic 211, 3) := by decide +kernel
theorem dX9_vessels_4 : decode cX9_vessels 4 = .ok (.iload_n 1, 1) := by decide +kernel
theorem dX9_vessels_5 : decode cX9_vessels 5 = .ok (.iconst (-1), 1) := by decide +kernel
theorem dX9_vessels_6 : decode cX9_vessels 6 = .ok (.if_icmp .ne 13, 3) := by decide +kernel
theorem dX9_vessels_9 : decode cX9_vessels 9 = .ok (.aload_n 0, 1) := by decide +kernel
theorem dX9_vessels_10 : decode cX9_vessels 10 = .ok (.getfield 65, 3) := by decide +kernel
theorem dX9_vessels_13 : decode cX9_vessels 13 = .ok (.invokevirtual 221, 3) := by decide +kernel
theorem dX9_vessels_16 : decode cX9_vessels 16 = .ok (.goto 11, 3) := by decide +kernel
theorem dX9_vessels_19 : decode cX9_vessels 19 = .ok (.aload_n 0, 1) := by decide +kernel
theorem dX9_vessels_20 : decode cX9_vessels 20 = .ok (.getfield 65, 3) := by decide +kernel
theorem dX9_vessels_23 : decode cX9_vessels 23 = .ok (.iload_n 1, 1) := by decide +kernel
theorem dX9_vessels_24 : decode cX9_vessels 24 = .ok (.invokevirtual 224, 3) := by decide +kernel
theorem dX9_vessels_27 : decode cX9_vessels 27 = .ok (.ireturn, 1) := by decide +kernel
set_option maxRecDepth 20000 in
theorem ggX9_vessel_X9_needIndex : GoodIn wsX9_vessel wsX9_needIndex := goodIn_sub (xc (xt1 (xl (xl (xl (xl (xt4 (xt1 (xt1 (xh))))))))) (xa (xc (xt1 (xl (xl (xl (xl (xt4 (xt1 (xt1 (xt1 (xh)))))))))) (xc (xt1 (xl (xl (xl (xl (xt4 (xt4 (xh)))))))) (xn))) (fun _ h => xt1 (xr (h))))) (by decide +kernel)
set_option maxRecDepth 20000 in
theorem gX9_vessel_X9_needIndex : GoodIn wsX9_vessel (va_wsS RX9 106 yX9_needIndex wsX9_needIndex) := goodIn_app (goodIn_sub (xc (xt1 (xl (xl (xl (xl (xt1 (xt1 (xt1 (xh))))))))) (xc (xt1 (xl (xl (xl (xl (xt4 (xh))))))) (xc (xt1 (xl (xl (xl (xl (xt4 (xt1 (xh)))))))) (xn)))) (by decide +kernel)) ggX9_vessel_X9_needIndex
theorem dX9_vessel_0 : decode cX9_vessel 0 = .ok (.iload_n 1, 1) := by decide +kernel
theorem dX9_vessel_1 : decode cX9_vessel 1 = .ok (.aload_n 0, 1) := by decide +kernel
theorem dX9_vessel_2 : decode cX9_vessel 2 = .ok (.getfield 65, 3) := by decide +kernel
theorem dX9_vessel_5 : decode cX9_vessel 5 = .ok (.getfield 215, 3) := by decide +kernel
theorem dX9_vessel_8 : decode cX9_vessel 8 = .ok (.invokestatic 106, 3) := by decide +kernel
theorem dX9_vessel_11 : decode cX9_vessel 11 = .ok (.aload_n 0, 1) := by decide +kernel
theorem dX9_vessel_12 : decode cX9_vessel 12 = .ok (.getfield 65, 3) := by decide +kernel
theorem dX9_vessel_15 : decode cX9_vessel 15 = .ok (.getfield 227, 3) := by decide +kernel
theorem dX9_vessel_18 : decode cX9_vessel 18 = .ok (.iload_n 1, 1) := by decide +kernel
theorem dX9_vessel_19 : decode cX9_vessel 19 = .ok (.iaload, 1) := by decide +kernel
theorem dX9_vessel_20 : decode cX9_vessel 20 = .ok (.istore_n 3, 1) := by decide +kernel
theorem dX9_vessel_21 : decode cX9_vessel 21 = .ok (.iload_n 2, 1) := by decide +kernel
theorem dX9_vessel_22 : decode cX9_vessel 22 = .ok (.tableswitch 48 0 2 #[26, 36, 46], 26) := by decide +kernel
theorem dX9_vessel_48 : decode cX9_vessel 48 = .ok (.aload_n 0, 1) := by decide +kernel
theorem dX9_vessel_49 : decode cX9_vessel 49 = .ok (.getfield 65, 3) := by decide +kernel
theorem dX9_vessel_52 : decode cX9_vessel 52 = .ok (.getfield 230, 3) := by decide +kernel
theorem dX9_vessel_55 : decode cX9_vessel 55 = .ok (.iload_n 3, 1) := by decide +kernel
theorem dX9_vessel_56 : decode cX9_vessel 56 = .ok (.iaload, 1) := by decide +kernel
theorem dX9_vessel_57 : decode cX9_vessel 57 = .ok (.ireturn, 1) := by decide +kernel
theorem dX9_vessel_58 : decode cX9_vessel 58 = .ok (.aload_n 0, 1) := by decide +kernel
theorem dX9_vessel_59 : decode cX9_vessel 59 = .ok (.getfield 65, 3) := by decide +kernel
theorem dX9_vessel_62 : decode cX9_vessel 62 = .ok (.getfield 233, 3) := by decide +kernel
theorem dX9_vessel_65 : decode cX9_vessel 65 = .ok (.iload_n 3, 1) := by decide +kernel
theorem dX9_vessel_66 : decode cX9_vessel 66 = .ok (.iaload, 1) := by decide +kernel
theorem dX9_vessel_67 : decode cX9_vessel 67 = .ok (.ireturn, 1) := by decide +kernel
theorem dX9_vessel_68 : decode cX9_vessel 68 = .ok (.iload_n 3, 1) := by decide +kernel
theorem dX9_vessel_69 : decode cX9_vessel 69 = .ok (.ireturn, 1) := by decide +kernel
theorem dX9_vessel_70 : decode cX9_vessel 70 = .ok (.new 167, 3) := by decide +kernel
theorem dX9_vessel_73 : decode cX9_vessel 73 = .ok (.dup, 1) := by decide +kernel
theorem dX9_vessel_74 : decode cX9_vessel 74 = .ok (.ldc 236, 2) := by decide +kernel
theorem dX9_vessel_76 : decode cX9_vessel 76 = .ok (.invokespecial 171, 3) := by decide +kernel
theorem dX9_vessel_79 : decode cX9_vessel 79 = .ok (.athrow, 1) := by decide +kernel
set_option maxRecDepth 20000 in
theorem ggX9_tell_X9_needIndex : GoodIn wsX9_tell wsX9_needIndex := goodIn_sub (xc (xt1 (xl (xl (xl (xl (xl (xl (xt4 (xt1 (xt1 (xt1 (xh)))))))))))) (xa (xc (xt1 (xl (xl (xl (xl (xl (xl (xt4 (xt4 (xh)))))))))) (xc (xt1 (xl (xl (xl (xl (xl (xl (xt4 (xt4 (xt1 (xh))))))))))) (xn))) (fun _ h => xt1 (xl (xr (h)))))) (by decide +kernel)
set_option maxRecDepth 20000 in
theorem gX9_tell_X9_needIndex : GoodIn wsX9_tell (va_wsS RX9 106 yX9_needIndex wsX9_needIndex) := goodIn_app (goodIn_sub (xc (xt1 (xl (xl (xl (xl (xl (xl (xt4 (xh))))))))) (xc (xt1 (xl (xl (xl (xl (xl (xl (xt4 (xt1 (xh)))))))))) (xc (xt1 (xl (xl (xl (xl (xl (xl (xt4 (xt1 (xt1 (xh))))))))))) (xn)))) (by decide +kernel)) ggX9_tell_X9_needIndex
set_option maxRecDepth 20000 in
theorem ggX9_tell_X9_needNumber : GoodIn wsX9_tell wsX9_needNumber := goodIn_sub (xc (xt1 (xl (xl (xl (xl (xl (xl (xt4 (xt4 (xt4 (xh))))))))))) (xa (xc (xt1 (xl (xl (xl (xl (xl (xl (xh)))))))) (xc (xt1 (xl (xl (xl (xl (xl (xl (xt1 (xh))))))))) (xn))) (fun _ h => xt1 (xl (xl (xr (h))))))) (by decide +kernel)
set_option maxRecDepth 20000 in
theorem gX9_tell_X9_needNumber : GoodIn wsX9_tell (va_wsS RX9 91 yX9_needNumber wsX9_needNumber) := goodIn_app (goodIn_sub (xc (xt1 (xl (xl (xl (xl (xl (xl (xt4 (xt4 (xt1 (xt1 (xh)))))))))))) (xc (xt1 (xl (xl (xl (xl (xl (xl (xt4 (xt4 (xt1 (xt1 (xt1 (xh))))))))))))) (xc (xt1 (xl (xl (xl (xl (xl (xl (xt4 (xt1 (xt1 (xh))))))))))) (xn)))) (by decide +kernel)) ggX9_tell_X9_needNumber
set_option maxRecDepth 20000 in
theorem ggX9_tell_X9_needPlace : GoodIn wsX9_tell wsX9_needPlace := goodIn_sub (xc (xt1 (xl (xl (xl (xl (xl (xl (xt4 (xt4 (xt4 (xt1 (xt1 (xt1 (xh)))))))))))))) (xa (xc (xt1 (xl (xl (xl (xl (xl (xl (xt16 (xh))))))))) (xc (xt1 (xl (xl (xl (xl (xl (xl (xt16 (xt1 (xh)))))))))) (xn))) (fun _ h => xt1 (xr (h))))) (by decide +kernel)
set_option maxRecDepth 20000 in
theorem gX9_tell_X9_needPlace : GoodIn wsX9_tell (va_wsS RX9 98 yX9_needPlace wsX9_needPlace) := goodIn_app (goodIn_sub (xc (xt1 (xl (xl (xl (xl (xl (xl (xt4 (xt4 (xt4 (xt1 (xh)))))))))))) (xc (xt1 (xl (xl (xl (xl (xl (xl (xt4 (xt4 (xt4 (xt1 (xt1 (xh))))))))))))) (xc (xt1 (xl (xl (xl (xl (xl (xl (xt4 (xt1 (xt1 (xh))))))))))) (xn)))) (by decide +kernel)) ggX9_tell_X9_needPlace
set_option maxRecDepth 20000 in
theorem ggX9_tell_X8_add : GoodIn wsX9_tell wsX8_add := goodIn_sub (xc (xt1 (xl (xl (xl (xl (xl (xl (xt16 (xt4 (xt1 (xt1 (xh)))))))))))) (xa (xc (xt1 (xl (xl (xl (xl (xl (xl (xt16 (xt4 (xt1 (xt1 (xt1 (xh))))))))))))) (xc (xt1 (xl (xl (xl (xl (xl (xr (xh)))))))) (xc (xt1 (xl (xl (xl (xl (xl (xr (xt1 (xh))))))))) (xc (xt1 (xl (xl (xl (xl (xl (xr (xt1 (xt1 (xh)))))))))) (xc (xt1 (xl (xl (xl (xl (xl (xr (xt1 (xt1 (xt1 (xh))))))))))) (xc (xt1 (xl (xl (xl (xl (xl (xr (xt4 (xh))))))))) (xn))))))) (fun _ h => xt1 (xl (xl (xl (xr (h)))))))) (by decide +kernel)
set_option maxRecDepth 20000 in
theorem gX9_tell_X8_add : GoodIn wsX9_tell (wsV RX9 241 RX8 yX8_add wsX8_add) := goodIn_app (goodIn_sub (xc (xt1 (xl (xl (xl (xl (xl (xl (xt16 (xt1 (xt1 (xh))))))))))) (xc (xt1 (xl (xl (xl (xl (xl (xl (xt16 (xt1 (xt1 (xt1 (xh)))))))))))) (xc (xt1 (xl (xl (xl (xl (xl (xl (xt16 (xt4 (xh)))))))))) (xc (xt1 (xl (xl (xl (xl (xl (xl (xt16 (xt4 (xt1 (xh))))))))))) (xn))))) (by decide +kernel)) ggX9_tell_X8_add
theorem dX9_tell_0 : decode cX9_tell 0 = .ok (.iload_n 1, 1) := by decide +kernel
theorem dX9_tell_1 : decode cX9_tell 1 = .ok (.bipush 12, 2) := by decide +kernel
theorem dX9_tell_3 : decode cX9_tell 3 = .ok (.invokestatic 106, 3) := by decide +kernel
theorem dX9_tell_6 : decode cX9_tell 6 = .ok (.iload_n 2, 1) := by decide +kernel
theorem dX9_tell_7 : decode cX9_tell 7 = .ok (.bipush 12, 2) := by decide +kernel
theorem dX9_tell_9 : decode cX9_tell 9 = .ok (.invokestatic 106, 3) := by decide +kernel
theorem dX9_tell_12 : decode cX9_tell 12 = .ok (.iload_n 1, 1) := by decide +kernel
theorem dX9_tell_13 : decode cX9_tell 13 = .ok (.iload_n 2, 1) := by decide +kernel
theorem dX9_tell_14 : decode cX9_tell 14 = .ok (.if_icmp .ne 13, 3) := by decide +kernel
theorem dX9_tell_17 : decode cX9_tell 17 = .ok (.new 193, 3) := by decide +kernel
theorem dX9_tell_20 : decode cX9_tell 20 = .ok (.dup, 1) := by decide +kernel
theorem dX9_tell_21 : decode cX9_tell 21 = .ok (.ldc 238, 2) := by decide +kernel
theorem dX9_tell_23 : decode cX9_tell 23 = .ok (.invokespecial 197, 3) := by decide +kernel
theorem dX9_tell_26 : decode cX9_tell 26 = .ok (.athrow, 1) := by decide +kernel
theorem dX9_tell_27 : decode cX9_tell 27 = .ok (.iload_n 3, 1) := by decide +kernel
theorem dX9_tell_28 : decode cX9_tell 28 = .ok (.sipush (-500), 3) := by decide +kernel
theorem dX9_tell_31 : decode cX9_tell 31 = .ok (.sipush 500, 3) := by decide +kernel
theorem dX9_tell_34 : decode cX9_tell 34 = .ok (.invokestatic 91, 3) := by decide +kernel
theorem dX9_tell_37 : decode cX9_tell 37 = .ok (.aload_n 0, 1) := by decide +kernel
theorem dX9_tell_38 : decode cX9_tell 38 = .ok (.getfield 72, 3) := by decide +kernel
theorem dX9_tell_41 : decode cX9_tell 41 = .ok (.getfield 240, 3) := by decide +kernel
theorem dX9_tell_44 : decode cX9_tell 44 = .ok (.bipush 60, 2) := by decide +kernel
theorem dX9_tell_46 : decode cX9_tell 46 = .ok (.invokestatic 98, 3) := by decide +kernel
theorem dX9_tell_49 : decode cX9_tell 49 = .ok (.aload_n 0, 1) := by decide +kernel
theorem dX9_tell_50 : decode cX9_tell 50 = .ok (.getfield 72, 3) := by decide +kernel
theorem dX9_tell_53 : decode cX9_tell 53 = .ok (.iload_n 1, 1) := by decide +kernel
theorem dX9_tell_54 : decode cX9_tell 54 = .ok (.iload_n 2, 1) := by decide +kernel
theorem dX9_tell_55 : decode cX9_tell 55 = .ok (.iload_n 3, 1) := by decide +kernel
theorem dX9_tell_56 : decode cX9_tell 56 = .ok (.aload_n 0, 1) := by decide +kernel
theorem dX9_tell_57 : decode cX9_tell 57 = .ok (.getfield 80, 3) := by decide +kernel
theorem dX9_tell_60 : decode cX9_tell 60 = .ok (.invokevirtual 241, 3) := by decide +kernel
theorem dX9_tell_63 : decode cX9_tell 63 = .ok (.ireturn, 1) := by decide +kernel
set_option maxRecDepth 20000 in
theorem ggX9_bound_X9_needIndex : GoodIn wsX9_bound wsX9_needIndex := goodIn_sub (xc (xt1 (xl (xl (xl (xl (xl (xl (xt4 (xt1 (xh)))))))))) (xa (xc (xt1 (xl (xl (xl (xl (xl (xl (xt4 (xt1 (xt1 (xh))))))))))) (xc (xt1 (xl (xl (xl (xl (xl (xl (xt4 (xt1 (xt1 (xt1 (xh)))))))))))) (xn))) (fun _ h => xt1 (xl (xl (xr (h))))))) (by decide +kernel)
set_option maxRecDepth 20000 in
theorem gX9_bound_X9_needIndex : GoodIn wsX9_bound (va_wsS RX9 106 yX9_needIndex wsX9_needIndex) := goodIn_app (goodIn_sub (xc (xt1 (xl (xl (xl (xl (xl (xl (xt1 (xt1 (xh)))))))))) (xc (xt1 (xl (xl (xl (xl (xl (xl (xt1 (xt1 (xt1 (xh))))))))))) (xc (xt1 (xl (xl (xl (xl (xl (xl (xt4 (xh))))))))) (xn)))) (by decide +kernel)) ggX9_bound_X9_needIndex
set_option maxRecDepth 20000 in
theorem ggX9_bound_X9_needNumber : GoodIn wsX9_bound wsX9_needNumber := goodIn_sub (xc (xt1 (xl (xl (xl (xl (xl (xl (xt4 (xt4 (xt1 (xt1 (xh)))))))))))) (xa (xc (xt1 (xl (xl (xl (xl (xl (xl (xt4 (xt4 (xt1 (xt1 (xt1 (xh))))))))))))) (xc (xt1 (xl (xl (xl (xl (xl (xl (xt4 (xt4 (xt4 (xh))))))))))) (xn))) (fun _ h => xt1 (xl (xr (h)))))) (by decide +kernel)
set_option maxRecDepth 20000 in
theorem gX9_bound_X9_needNumber : GoodIn wsX9_bound (va_wsS RX9 91 yX9_needNumber wsX9_needNumber) := goodIn_app (goodIn_sub (xc (xt1 (xl (xl (xl (xl (xl (xl (xt4 (xt4 (xh)))))))))) (xc (xt1 (xl (xl (xl (xl (xl (xl (xt4 (xt4 (xt1 (xh))))))))))) (xc (xt1 (xl (xl (xl (xl (xl (xl (xt4 (xh))))))))) (xn)))) (by decide +kernel)) ggX9_bound_X9_needNumber
set_option maxRecDepth 20000 in
theorem ggX9_bound_X9_needPlace : GoodIn wsX9_bound wsX9_needPlace := goodIn_sub (xc (xt1 (xl (xl (xl (xl (xl (xl (xt4 (xt4 (xt4 (xt1 (xt1 (xt1 (xh)))))))))))))) (xa (xc (xt1 (xl (xl (xl (xl (xl (xl (xt16 (xh))))))))) (xc (xt1 (xl (xl (xl (xl (xl (xl (xt16 (xt1 (xh)))))))))) (xn))) (fun _ h => xt1 (xr (h))))) (by decide +kernel)
set_option maxRecDepth 20000 in
theorem gX9_bound_X9_needPlace : GoodIn wsX9_bound (va_wsS RX9 98 yX9_needPlace wsX9_needPlace) := goodIn_app (goodIn_sub (xc (xt1 (xl (xl (xl (xl (xl (xl (xt4 (xt4 (xt4 (xt1 (xh)))))))))))) (xc (xt1 (xl (xl (xl (xl (xl (xl (xt4 (xt4 (xt4 (xt1 (xt1 (xh))))))))))))) (xc (xt1 (xl (xl (xl (xl (xl (xl (xt4 (xh))))))))) (xn)))) (by decide +kernel)) ggX9_bound_X9_needPlace
set_option maxRecDepth 20000 in
theorem ggX9_bound_X8_add : GoodIn wsX9_bound wsX8_add := goodIn_sub (xc (xt1 (xl (xl (xl (xl (xl (xl (xt16 (xt4 (xt1 (xt1 (xh)))))))))))) (xa (xc (xt1 (xl (xl (xl (xl (xl (xl (xt16 (xt4 (xt1 (xt1 (xt1 (xh))))))))))))) (xc (xt1 (xl (xl (xl (xl (xl (xr (xh)))))))) (xc (xt1 (xl (xl (xl (xl (xl (xr (xt1 (xh))))))))) (xc (xt1 (xl (xl (xl (xl (xl (xr (xt1 (xt1 (xh)))))))))) (xc (xt1 (xl (xl (xl (xl (xl (xr (xt1 (xt1 (xt1 (xh))))))))))) (xc (xt1 (xl (xl (xl (xl (xl (xr (xt4 (xh))))))))) (xn))))))) (fun _ h => xt1 (xl (xl (xl (xr (h)))))))) (by decide +kernel)
set_option maxRecDepth 20000 in
theorem gX9_bound_X8_add : GoodIn wsX9_bound (wsV RX9 241 RX8 yX8_add wsX8_add) := goodIn_app (goodIn_sub (xc (xt1 (xl (xl (xl (xl (xl (xl (xt16 (xt1 (xt1 (xh))))))))))) (xc (xt1 (xl (xl (xl (xl (xl (xl (xt16 (xt1 (xt1 (xt1 (xh)))))))))))) (xc (xt1 (xl (xl (xl (xl (xl (xl (xt16 (xt4 (xh)))))))))) (xc (xt1 (xl (xl (xl (xl (xl (xl (xt16 (xt4 (xt1 (xh))))))))))) (xn))))) (by decide +kernel)) ggX9_bound_X8_add
theorem dX9_bound_0 : decode cX9_bound 0 = .ok (.iload_n 1, 1) := by decide +kernel
theorem dX9_bound_1 : decode cX9_bound 1 = .ok (.bipush 12, 2) := by decide +kernel
theorem dX9_bound_3 : decode cX9_bound 3 = .ok (.invokestatic 106, 3) := by decide +kernel
theorem dX9_bound_6 : decode cX9_bound 6 = .ok (.iload_n 2, 1) := by decide +kernel
theorem dX9_bound_7 : decode cX9_bound 7 = .ok (.iconst 0, 1) := by decide +kernel
theorem dX9_bound_8 : decode cX9_bound 8 = .ok (.sipush 1000, 3) := by decide +kernel
theorem dX9_bound_11 : decode cX9_bound 11 = .ok (.invokestatic 91, 3) := by decide +kernel
theorem dX9_bound_14 : decode cX9_bound 14 = .ok (.aload_n 0, 1) := by decide +kernel
theorem dX9_bound_15 : decode cX9_bound 15 = .ok (.getfield 72, 3) := by decide +kernel
theorem dX9_bound_18 : decode cX9_bound 18 = .ok (.getfield 240, 3) := by decide +kernel
theorem dX9_bound_21 : decode cX9_bound 21 = .ok (.bipush 60, 2) := by decide +kernel
theorem dX9_bound_23 : decode cX9_bound 23 = .ok (.invokestatic 98, 3) := by decide +kernel
theorem dX9_bound_26 : decode cX9_bound 26 = .ok (.iload_n 3, 1) := by decide +kernel
theorem dX9_bound_27 : decode cX9_bound 27 = .ok (.ifCond .eq 22, 3) := by decide +kernel
theorem dX9_bound_30 : decode cX9_bound 30 = .ok (.aload_n 0, 1) := by decide +kernel
theorem dX9_bound_31 : decode cX9_bound 31 = .ok (.getfield 72, 3) := by decide +kernel
theorem dX9_bound_34 : decode cX9_bound 34 = .ok (.iload_n 1, 1) := by decide +kernel
theorem dX9_bound_35 : decode cX9_bound 35 = .ok (.bipush 12, 2) := by decide +kernel
theorem dX9_bound_37 : decode cX9_bound 37 = .ok (.iload_n 2, 1) := by decide +kernel
theorem dX9_bound_38 : decode cX9_bound 38 = .ok (.ineg, 1) := by decide +kernel
theorem dX9_bound_39 : decode cX9_bound 39 = .ok (.aload_n 0, 1) := by decide +kernel
theorem dX9_bound_40 : decode cX9_bound 40 = .ok (.getfield 80, 3) := by decide +kernel
theorem dX9_bound_43 : decode cX9_bound 43 = .ok (.invokevirtual 241, 3) := by decide +kernel
theorem dX9_bound_46 : decode cX9_bound 46 = .ok (.goto 18, 3) := by decide +kernel
theorem dX9_bound_49 : decode cX9_bound 49 = .ok (.aload_n 0, 1) := by decide +kernel
theorem dX9_bound_50 : decode cX9_bound 50 = .ok (.getfield 72, 3) := by decide +kernel
theorem dX9_bound_53 : decode cX9_bound 53 = .ok (.bipush 12, 2) := by decide +kernel
theorem dX9_bound_55 : decode cX9_bound 55 = .ok (.iload_n 1, 1) := by decide +kernel
theorem dX9_bound_56 : decode cX9_bound 56 = .ok (.iload_n 2, 1) := by decide +kernel
theorem dX9_bound_57 : decode cX9_bound 57 = .ok (.aload_n 0, 1) := by decide +kernel
theorem dX9_bound_58 : decode cX9_bound 58 = .ok (.getfield 80, 3) := by decide +kernel
theorem dX9_bound_61 : decode cX9_bound 61 = .ok (.invokevirtual 241, 3) := by decide +kernel
theorem dX9_bound_64 : decode cX9_bound 64 = .ok (.ireturn, 1) := by decide +kernel
set_option maxRecDepth 20000 in
theorem ggX9_undo_X9_needIndex : GoodIn wsX9_undo wsX9_needIndex := goodIn_sub (xc (xt1 (xl (xl (xl (xt4 (xt1 (xh))))))) (xa (xc (xt1 (xl (xl (xl (xt4 (xt1 (xt1 (xh)))))))) (xc (xt1 (xl (xl (xl (xt4 (xt1 (xt1 (xt1 (xh))))))))) (xn))) (fun _ h => xt1 (xr (h))))) (by decide +kernel)
set_option maxRecDepth 20000 in
theorem gX9_undo_X9_needIndex : GoodIn wsX9_undo (va_wsS RX9 106 yX9_needIndex wsX9_needIndex) := goodIn_app (goodIn_sub (xc (xt1 (xl (xl (xl (xt1 (xt1 (xh))))))) (xc (xt1 (xl (xl (xl (xt1 (xt1 (xt1 (xh)))))))) (xc (xt1 (xl (xl (xl (xt4 (xh)))))) (xn)))) (by decide +kernel)) ggX9_undo_X9_needIndex
set_option maxRecDepth 20000 in
theorem ggX9_undo_X8_takeBack : GoodIn wsX9_undo wsX8_takeBack := goodIn_sub (xc (xt1 (xl (xl (xl (xt4 (xt4 (xt4 (xh)))))))) (xa (xc (xt1 (xl (xl (xl (xt4 (xt4 (xt4 (xt1 (xh))))))))) (xn)) (fun _ h => xt1 (xl (xr (h)))))) (by decide +kernel)
set_option maxRecDepth 20000 in
theorem gX9_undo_X8_takeBack : GoodIn wsX9_undo (wsV RX9 244 RX8 yX8_takeBack wsX8_takeBack) := goodIn_app (goodIn_sub (xc (xt1 (xl (xl (xl (xt4 (xt4 (xh))))))) (xc (xt1 (xl (xl (xl (xt4 (xt4 (xt1 (xh)))))))) (xc (xt1 (xl (xl (xl (xt4 (xt4 (xt1 (xt1 (xh))))))))) (xc (xt1 (xl (xl (xl (xt4 (xt4 (xt1 (xt1 (xt1 (xh)))))))))) (xn))))) (by decide +kernel)) ggX9_undo_X8_takeBack
theorem dX9_undo_0 : decode cX9_undo 0 = .ok (.iload_n 1, 1) := by decide +kernel
theorem dX9_undo_1 : decode cX9_undo 1 = .ok (.aload_n 0, 1) := by decide +kernel
theorem dX9_undo_2 : decode cX9_undo 2 = .ok (.getfield 72, 3) := by decide +kernel
theorem dX9_undo_5 : decode cX9_undo 5 = .ok (.getfield 240, 3) := by decide +kernel
theorem dX9_undo_8 : decode cX9_undo 8 = .ok (.invokestatic 106, 3) := by decide +kernel
theorem dX9_undo_11 : decode cX9_undo 11 = .ok (.aload_n 0, 1) := by decide +kernel
theorem dX9_undo_12 : decode cX9_undo 12 = .ok (.getfield 72, 3) := by decide +kernel
theorem dX9_undo_15 : decode cX9_undo 15 = .ok (.iload_n 1, 1) := by decide +kernel
theorem dX9_undo_16 : decode cX9_undo 16 = .ok (.aload_n 0, 1) := by decide +kernel
theorem dX9_undo_17 : decode cX9_undo 17 = .ok (.getfield 80, 3) := by decide +kernel
theorem dX9_undo_20 : decode cX9_undo 20 = .ok (.invokevirtual 244, 3) := by decide +kernel
theorem dX9_undo_23 : decode cX9_undo 23 = .ok (.ireturn, 1) := by decide +kernel
set_option maxRecDepth 20000 in
theorem ggX9_days_X9_needNumber : GoodIn wsX9_days wsX9_needNumber := goodIn_sub (xc (xt1 (xl (xl (xt4 (xh))))) (xa (xc (xt1 (xl (xl (xt4 (xt1 (xh)))))) (xc (xt1 (xl (xl (xt4 (xt1 (xt1 (xh))))))) (xn))) (fun _ h => xt1 (xr (h))))) (by decide +kernel)
set_option maxRecDepth 20000 in
theorem gX9_days_X9_needNumber : GoodIn wsX9_days (va_wsS RX9 91 yX9_needNumber wsX9_needNumber) := goodIn_app (goodIn_sub (xc (xt1 (xl (xl (xt1 (xh))))) (xc (xt1 (xl (xl (xt1 (xt1 (xh)))))) (xc (xt1 (xl (xl (xt1 (xt1 (xt1 (xh))))))) (xn)))) (by decide +kernel)) ggX9_days_X9_needNumber
theorem dX9_days_0 : decode cX9_days 0 = .ok (.iload_n 1, 1) := by decide +kernel
theorem dX9_days_1 : decode cX9_days 1 = .ok (.iconst 0, 1) := by decide +kernel
theorem dX9_days_2 : decode cX9_days 2 = .ok (.sipush 1000, 3) := by decide +kernel
theorem dX9_days_5 : decode cX9_days 5 = .ok (.invokestatic 91, 3) := by decide +kernel
theorem dX9_days_8 : decode cX9_days 8 = .ok (.aload_n 0, 1) := by decide +kernel
theorem dX9_days_9 : decode cX9_days 9 = .ok (.dup, 1) := by decide +kernel
theorem dX9_days_10 : decode cX9_days 10 = .ok (.getfield 80, 3) := by decide +kernel
theorem dX9_days_13 : decode cX9_days 13 = .ok (.iload_n 1, 1) := by decide +kernel
theorem dX9_days_14 : decode cX9_days 14 = .ok (.iadd, 1) := by decide +kernel
theorem dX9_days_15 : decode cX9_days 15 = .ok (.putfield 80, 3) := by decide +kernel
theorem dX9_days_18 : decode cX9_days 18 = .ok (.aload_n 0, 1) := by decide +kernel
theorem dX9_days_19 : decode cX9_days 19 = .ok (.getfield 80, 3) := by decide +kernel
theorem dX9_days_22 : decode cX9_days 22 = .ok (.ireturn, 1) := by decide +kernel
set_option maxRecDepth 20000 in
theorem ggX9_agree_X8_recall : GoodIn wsX9_agree wsX8_recall := goodIn_sub (xc (xt1 (xl (xl (xl (xt4 (xt1 (xh))))))) (xa (xc (xt1 (xl (xl (xl (xt4 (xt1 (xt1 (xh)))))))) (xc (xt1 (xl (xl (xl (xt4 (xt1 (xt1 (xt1 (xh))))))))) (xc (xt1 (xl (xl (xl (xt4 (xt4 (xh))))))) (xc (xt1 (xl (xl (xl (xt4 (xt4 (xt1 (xh)))))))) (xc (xt1 (xl (xl (xl (xt4 (xt4 (xt1 (xt1 (xh))))))))) (xn)))))) (fun _ h => xt1 (xr (h))))) (by decide +kernel)
set_option maxRecDepth 20000 in
theorem gX9_agree_X8_recall : GoodIn wsX9_agree (wsV RX9 247 RX8 yX8_recall wsX8_recall) := goodIn_app (goodIn_sub (xc (xt1 (xl (xl (xl (xt1 (xh)))))) (xc (xt1 (xl (xl (xl (xt1 (xt1 (xh))))))) (xc (xt1 (xl (xl (xl (xt1 (xt1 (xt1 (xh)))))))) (xc (xt1 (xl (xl (xl (xt4 (xh)))))) (xn))))) (by decide +kernel)) ggX9_agree_X8_recall
set_option maxRecDepth 20000 in
theorem ggX9_agree_X8_canAllHold : GoodIn wsX9_agree wsX8_canAllHold := goodIn_sub (xc (xt1 (xl (xl (xl (xt4 (xt4 (xt4 (xt1 (xt1 (xh)))))))))) (xa (xc (xt1 (xl (xl (xl (xt4 (xt4 (xt4 (xt1 (xt1 (xt1 (xh))))))))))) (xc (xt1 (xl (xl (xl (xt16 (xh)))))) (xc (xt1 (xl (xl (xl (xt16 (xt1 (xh))))))) (xc (xt1 (xl (xl (xl (xt4 (xh)))))) (xc (xt1 (xl (xl (xl (xt16 (xt1 (xt1 (xh)))))))) (xc (xt1 (xl (xl (xl (xt16 (xt1 (xt1 (xt1 (xh))))))))) (xc (xt1 (xl (xl (xl (xt16 (xt4 (xh))))))) (xc (xt1 (xl (xl (xl (xt16 (xt4 (xt1 (xh)))))))) (xc (xt1 (xl (xl (xl (xt16 (xt4 (xt1 (xt1 (xh))))))))) (xc (xt1 (xl (xl (xl (xt16 (xt4 (xt1 (xt1 (xt1 (xh)))))))))) (xc (xt1 (xl (xl (xr (xh))))) (xc (xt1 (xl (xl (xr (xt1 (xh)))))) (xc (xt1 (xl (xl (xr (xt1 (xt1 (xh))))))) (xc (xt1 (xl (xl (xl (xt4 (xt1 (xt1 (xh)))))))) (xc (xt1 (xl (xl (xl (xt4 (xt4 (xt1 (xt1 (xh))))))))) (xc (xt1 (xl (xl (xr (xt1 (xt1 (xt1 (xh)))))))) (xc (xt1 (xl (xl (xr (xt4 (xh)))))) (xc (xt1 (xl (xl (xr (xt4 (xt1 (xh))))))) (xc (xt1 (xl (xl (xr (xt4 (xt1 (xt1 (xh)))))))) (xn)))))))))))))))))))) (fun _ h => xt1 (xr (h))))) (by decide +kernel)
set_option maxRecDepth 20000 in
theorem gX9_agree_X8_canAllHold : GoodIn wsX9_agree (wsV RX9 250 RX8 yX8_canAllHold wsX8_canAllHold) := goodIn_app (goodIn_sub (xc (xt1 (xl (xl (xl (xt4 (xt4 (xt1 (xt1 (xt1 (xh)))))))))) (xc (xt1 (xl (xl (xl (xt4 (xt4 (xt4 (xh)))))))) (xc (xt1 (xl (xl (xl (xt4 (xt4 (xt4 (xt1 (xh))))))))) (xc (xt1 (xl (xl (xl (xt4 (xh)))))) (xn))))) (by decide +kernel)) ggX9_agree_X8_canAllHold
theorem dX9_agree_0 : decode cX9_agree 0 = .ok (.aload_n 0, 1) := by decide +kernel
theorem dX9_agree_1 : decode cX9_agree 1 = .ok (.getfield 72, 3) := by decide +kernel
theorem dX9_agree_4 : decode cX9_agree 4 = .ok (.iload_n 1, 1) := by decide +kernel
theorem dX9_agree_5 : decode cX9_agree 5 = .ok (.invokevirtual 247, 3) := by decide +kernel
theorem dX9_agree_8 : decode cX9_agree 8 = .ok (.aload_n 0, 1) := by decide +kernel
theorem dX9_agree_9 : decode cX9_agree 9 = .ok (.getfield 72, 3) := by decide +kernel
theorem dX9_agree_12 : decode cX9_agree 12 = .ok (.invokevirtual 250, 3) := by decide +kernel
theorem dX9_agree_15 : decode cX9_agree 15 = .ok (.ireturn, 1) := by decide +kernel
set_option maxRecDepth 20000 in
theorem ggX9_span_X9_needIndex : GoodIn wsX9_span wsX9_needIndex := goodIn_sub (xc (xt1 (xl (xl (xl (xl (xl (xt4 (xt1 (xt1 (xt1 (xh))))))))))) (xa (xc (xt1 (xl (xl (xl (xl (xl (xt4 (xt4 (xh))))))))) (xc (xt1 (xl (xl (xl (xl (xl (xt4 (xt4 (xt1 (xh)))))))))) (xn))) (fun _ h => xt1 (xr (h))))) (by decide +kernel)
set_option maxRecDepth 20000 in
theorem gX9_span_X9_needIndex : GoodIn wsX9_span (va_wsS RX9 106 yX9_needIndex wsX9_needIndex) := goodIn_app (goodIn_sub (xc (xt1 (xl (xl (xl (xl (xl (xt4 (xh)))))))) (xc (xt1 (xl (xl (xl (xl (xl (xt4 (xt1 (xh))))))))) (xc (xt1 (xl (xl (xl (xl (xl (xt4 (xt1 (xt1 (xh)))))))))) (xn)))) (by decide +kernel)) ggX9_span_X9_needIndex
set_option maxRecDepth 20000 in
theorem ggX9_span_X8_recall : GoodIn wsX9_span wsX8_recall := goodIn_sub (xc (xt1 (xl (xl (xl (xl (xl (xt4 (xt4 (xt4 (xt1 (xt1 (xh)))))))))))) (xa (xc (xt1 (xl (xl (xl (xl (xl (xt4 (xt4 (xt4 (xt1 (xt1 (xt1 (xh))))))))))))) (xc (xt1 (xl (xl (xl (xl (xl (xt16 (xh)))))))) (xc (xt1 (xl (xl (xl (xl (xl (xt16 (xt1 (xh))))))))) (xc (xt1 (xl (xl (xl (xl (xl (xt16 (xt1 (xt1 (xh)))))))))) (xc (xt1 (xl (xl (xl (xl (xl (xt16 (xt1 (xt1 (xt1 (xh))))))))))) (xn)))))) (fun _ h => xt1 (xl (xl (xr (h))))))) (by decide +kernel)
set_option maxRecDepth 20000 in
theorem gX9_span_X8_recall : GoodIn wsX9_span (wsV RX9 247 RX8 yX8_recall wsX8_recall) := goodIn_app (goodIn_sub (xc (xt1 (xl (xl (xl (xl (xl (xt4 (xt4 (xt1 (xt1 (xh))))))))))) (xc (xt1 (xl (xl (xl (xl (xl (xt4 (xt4 (xt1 (xt1 (xt1 (xh)))))))))))) (xc (xt1 (xl (xl (xl (xl (xl (xt4 (xt4 (xt4 (xh)))))))))) (xc (xt1 (xl (xl (xl (xl (xl (xt4 (xt4 (xt4 (xt1 (xh))))))))))) (xn))))) (by decide +kernel)) ggX9_span_X8_recall
set_option maxRecDepth 20000 in
theorem ggX9_span_X8_canAllHold : GoodIn wsX9_span wsX8_canAllHold := goodIn_sub (xc (xt1 (xl (xl (xl (xl (xl (xt16 (xt4 (xt1 (xt1 (xt1 (xh)))))))))))) (xa (xc (xt1 (xl (xl (xl (xl (xr (xh))))))) (xc (xt1 (xl (xl (xl (xl (xr (xt1 (xh)))))))) (xc (xt1 (xl (xl (xl (xl (xr (xt1 (xt1 (xh))))))))) (xc (xt1 (xl (xl (xl (xl (xl (xt4 (xt4 (xt4 (xt1 (xh))))))))))) (xc (xt1 (xl (xl (xl (xl (xr (xt1 (xt1 (xt1 (xh)))))))))) (xc (xt1 (xl (xl (xl (xl (xr (xt4 (xh)))))))) (xc (xt1 (xl (xl (xl (xl (xr (xt4 (xt1 (xh))))))))) (xc (xt1 (xl (xl (xl (xl (xr (xt4 (xt1 (xt1 (xh)))))))))) (xc (xt1 (xl (xl (xl (xl (xr (xt4 (xt1 (xt1 (xt1 (xh))))))))))) (xc (xt1 (xl (xl (xl (xl (xr (xt4 (xt4 (xh))))))))) (xc (xt1 (xl (xl (xl (xl (xr (xt4 (xt4 (xt1 (xh)))))))))) (xc (xt1 (xl (xl (xl (xl (xr (xt4 (xt4 (xt1 (xt1 (xh))))))))))) (xc (xt1 (xl (xl (xl (xl (xr (xt4 (xt4 (xt1 (xt1 (xt1 (xh)))))))))))) (xc (xt1 (xl (xl (xl (xl (xl (xt4 (xt4 (xt4 (xt1 (xt1 (xt1 (xh))))))))))))) (xc (xt1 (xl (xl (xl (xl (xl (xt16 (xt1 (xt1 (xt1 (xh))))))))))) (xc (xt1 (xl (xl (xl (xl (xr (xt4 (xt4 (xt4 (xh)))))))))) (xc (xt1 (xl (xl (xl (xl (xr (xt4 (xt4 (xt4 (xt1 (xh))))))))))) (xc (xt1 (xl (xl (xl (xl (xr (xt4 (xt4 (xt4 (xt1 (xt1 (xh)))))))))))) (xc (xt1 (xl (xl (xl (xl (xr (xt4 (xt4 (xt4 (xt1 (xt1 (xt1 (xh))))))))))))) (xn)))))))))))))))))))) (fun _ h => xt1 (xl (xl (xr (h))))))) (by decide +kernel)
set_option maxRecDepth 20000 in
theorem gX9_span_X8_canAllHold : GoodIn wsX9_span (wsV RX9 250 RX8 yX8_canAllHold wsX8_canAllHold) := goodIn_app (goodIn_sub (xc (xt1 (xl (xl (xl (xl (xl (xt16 (xt4 (xh))))))))) (xc (xt1 (xl (xl (xl (xl (xl (xt16 (xt4 (xt1 (xh)))))))))) (xc (xt1 (xl (xl (xl (xl (xl (xt16 (xt4 (xt1 (xt1 (xh))))))))))) (xc (xt1 (xl (xl (xl (xl (xl (xt4 (xt4 (xt4 (xt1 (xh))))))))))) (xn))))) (by decide +kernel)) ggX9_span_X8_canAllHold
set_option maxRecDepth 20000 in
theorem ggX9_span_X8_yearsBetween : GoodIn wsX9_span wsX8_yearsBetween := goodIn_sub (xc (xt1 (xl (xl (xl (xl (xr (xt16 (xt1 (xt1 (xt1 (xh))))))))))) (xa (xc (xt1 (xl (xl (xl (xl (xr (xh))))))) (xc (xt1 (xl (xl (xl (xl (xr (xt4 (xt4 (xt4 (xt1 (xh))))))))))) (xc (xt1 (xl (xl (xl (xl (xr (xt1 (xh)))))))) (xc (xt1 (xl (xl (xl (xl (xr (xt1 (xt1 (xh))))))))) (xc (xt1 (xl (xl (xl (xl (xl (xt4 (xt4 (xt4 (xt1 (xh))))))))))) (xc (xt1 (xl (xl (xl (xl (xr (xt1 (xt1 (xt1 (xh)))))))))) (xc (xt1 (xl (xl (xl (xl (xr (xt4 (xh)))))))) (xc (xt1 (xl (xl (xl (xl (xr (xt4 (xt1 (xh))))))))) (xc (xt1 (xl (xl (xl (xl (xr (xt4 (xt1 (xt1 (xh)))))))))) (xc (xt1 (xl (xl (xl (xl (xr (xt4 (xt1 (xt1 (xt1 (xh))))))))))) (xc (xt1 (xl (xl (xl (xl (xr (xt4 (xt4 (xh))))))))) (xc (xt1 (xl (xl (xl (xl (xr (xt4 (xt4 (xt1 (xh)))))))))) (xc (xt1 (xl (xl (xl (xl (xr (xt4 (xt4 (xt1 (xt1 (xh))))))))))) (xc (xt1 (xl (xl (xl (xl (xr (xt4 (xt4 (xt1 (xt1 (xt1 (xh)))))))))))) (xc (xt1 (xl (xl (xl (xl (xl (xt4 (xt4 (xt4 (xt1 (xt1 (xt1 (xh))))))))))))) (xc (xt1 (xl (xl (xl (xl (xl (xt16 (xt1 (xt1 (xt1 (xh))))))))))) (xc (xt1 (xl (xl (xl (xl (xr (xt4 (xt4 (xt4 (xh)))))))))) (xc (xt1 (xl (xl (xl (xl (xr (xt4 (xt4 (xt4 (xt1 (xt1 (xh)))))))))))) (xc (xt1 (xl (xl (xl (xl (xr (xt4 (xt4 (xt4 (xt1 (xt1 (xt1 (xh))))))))))))) (xn)))))))))))))))))))) (fun _ h => xt1 (xl (xl (xr (h))))))) (by decide +kernel)
set_option maxRecDepth 20000 in
theorem gX9_span_X8_yearsBetween : GoodIn wsX9_span (wsV RX9 256 RX8 yX8_yearsBetween wsX8_yearsBetween) := goodIn_app (goodIn_sub (xc (xt1 (xl (xl (xl (xl (xr (xt16 (xh)))))))) (xc (xt1 (xl (xl (xl (xl (xr (xt16 (xt1 (xh))))))))) (xc (xt1 (xl (xl (xl (xl (xr (xt16 (xt1 (xt1 (xh)))))))))) (xc (xt1 (xl (xl (xl (xl (xl (xt4 (xt4 (xt4 (xt1 (xh))))))))))) (xn))))) (by decide +kernel)) ggX9_span_X8_yearsBetween
theorem dX9_span_0 : decode cX9_span 0 = .ok (.iload_n 1, 1) := by decide +kernel
theorem dX9_span_1 : decode cX9_span 1 = .ok (.bipush 12, 2) := by decide +kernel
theorem dX9_span_3 : decode cX9_span 3 = .ok (.invokestatic 106, 3) := by decide +kernel
theorem dX9_span_6 : decode cX9_span 6 = .ok (.aload_n 0, 1) := by decide +kernel
theorem dX9_span_7 : decode cX9_span 7 = .ok (.getfield 72, 3) := by decide +kernel
theorem dX9_span_10 : decode cX9_span 10 = .ok (.iload_n 3, 1) := by decide +kernel
theorem dX9_span_11 : decode cX9_span 11 = .ok (.invokevirtual 247, 3) := by decide +kernel
theorem dX9_span_14 : decode cX9_span 14 = .ok (.aload_n 0, 1) := by decide +kernel
theorem dX9_span_15 : decode cX9_span 15 = .ok (.getfield 72, 3) := by decide +kernel
theorem dX9_span_18 : decode cX9_span 18 = .ok (.invokevirtual 250, 3) := by decide +kernel
theorem dX9_span_21 : decode cX9_span 21 = .ok (.ifCond .ne 13, 3) := by decide +kernel
theorem dX9_span_24 : decode cX9_span 24 = .ok (.new 167, 3) := by decide +kernel
theorem dX9_span_27 : decode cX9_span 27 = .ok (.dup, 1) := by decide +kernel
theorem dX9_span_28 : decode cX9_span 28 = .ok (.ldc 254, 2) := by decide +kernel
theorem dX9_span_30 : decode cX9_span 30 = .ok (.invokespecial 171, 3) := by decide +kernel
theorem dX9_span_33 : decode cX9_span 33 = .ok (.athrow, 1) := by decide +kernel
theorem dX9_span_34 : decode cX9_span 34 = .ok (.iload_n 2, 1) := by decide +kernel
theorem dX9_span_35 : decode cX9_span 35 = .ok (.ifCond .eq 16, 3) := by decide +kernel
theorem dX9_span_38 : decode cX9_span 38 = .ok (.aload_n 0, 1) := by decide +kernel
theorem dX9_span_39 : decode cX9_span 39 = .ok (.getfield 72, 3) := by decide +kernel
theorem dX9_span_42 : decode cX9_span 42 = .ok (.iload_n 1, 1) := by decide +kernel
theorem dX9_span_43 : decode cX9_span 43 = .ok (.bipush 12, 2) := by decide +kernel
theorem dX9_span_45 : decode cX9_span 45 = .ok (.invokevirtual 256, 3) := by decide +kernel
theorem dX9_span_48 : decode cX9_span 48 = .ok (.goto 13, 3) := by decide +kernel
theorem dX9_span_51 : decode cX9_span 51 = .ok (.aload_n 0, 1) := by decide +kernel
theorem dX9_span_52 : decode cX9_span 52 = .ok (.getfield 72, 3) := by decide +kernel
theorem dX9_span_55 : decode cX9_span 55 = .ok (.bipush 12, 2) := by decide +kernel
theorem dX9_span_57 : decode cX9_span 57 = .ok (.iload_n 1, 1) := by decide +kernel
theorem dX9_span_58 : decode cX9_span 58 = .ok (.invokevirtual 256, 3) := by decide +kernel
theorem dX9_span_61 : decode cX9_span 61 = .ok (.istore 4, 2) := by decide +kernel
theorem dX9_span_63 : decode cX9_span 63 = .ok (.iload 4, 2) := by decide +kernel
theorem dX9_span_65 : decode cX9_span 65 = .ok (.ldc_w 259, 3) := by decide +kernel
theorem dX9_span_68 : decode cX9_span 68 = .ok (.if_icmp .ne 14, 3) := by decide +kernel
theorem dX9_span_71 : decode cX9_span 71 = .ok (.new 167, 3) := by decide +kernel
theorem dX9_span_74 : decode cX9_span 74 = .ok (.dup, 1) := by decide +kernel
theorem dX9_span_75 : decode cX9_span 75 = .ok (.ldc_w 260, 3) := by decide +kernel
theorem dX9_span_78 : decode cX9_span 78 = .ok (.invokespecial 171, 3) := by decide +kernel
theorem dX9_span_81 : decode cX9_span 81 = .ok (.athrow, 1) := by decide +kernel
theorem dX9_span_82 : decode cX9_span 82 = .ok (.iload_n 2, 1) := by decide +kernel
theorem dX9_span_83 : decode cX9_span 83 = .ok (.ifCond .eq 9, 3) := by decide +kernel
theorem dX9_span_86 : decode cX9_span 86 = .ok (.iload 4, 2) := by decide +kernel
theorem dX9_span_88 : decode cX9_span 88 = .ok (.ineg, 1) := by decide +kernel
theorem dX9_span_89 : decode cX9_span 89 = .ok (.goto 5, 3) := by decide +kernel
theorem dX9_span_92 : decode cX9_span 92 = .ok (.iload 4, 2) := by decide +kernel
theorem dX9_span_94 : decode cX9_span 94 = .ok (.ireturn, 1) := by decide +kernel
set_option maxRecDepth 20000 in
theorem ggX9_quarrel_X8_recall : GoodIn wsX9_quarrel wsX8_recall := goodIn_sub (xc (xt1 (xl (xl (xl (xt4 (xt1 (xh))))))) (xa (xc (xt1 (xl (xl (xl (xt4 (xt1 (xt1 (xh)))))))) (xc (xt1 (xl (xl (xl (xt4 (xt1 (xt1 (xt1 (xh))))))))) (xc (xt1 (xl (xl (xl (xt4 (xt4 (xh))))))) (xc (xt1 (xl (xl (xl (xt4 (xt4 (xt1 (xh)))))))) (xc (xt1 (xl (xl (xl (xt4 (xt4 (xt1 (xt1 (xh))))))))) (xn)))))) (fun _ h => xt1 (xr (h))))) (by decide +kernel)
set_option maxRecDepth 20000 in
theorem gX9_quarrel_X8_recall : GoodIn wsX9_quarrel (wsV RX9 247 RX8 yX8_recall wsX8_recall) := goodIn_app (goodIn_sub (xc (xt1 (xl (xl (xl (xt1 (xh)))))) (xc (xt1 (xl (xl (xl (xt1 (xt1 (xh))))))) (xc (xt1 (xl (xl (xl (xt1 (xt1 (xt1 (xh)))))))) (xc (xt1 (xl (xl (xl (xt4 (xh)))))) (xn))))) (by decide +kernel)) ggX9_quarrel_X8_recall
set_option maxRecDepth 20000 in
theorem ggX9_quarrel_X8_canAllHold : GoodIn wsX9_quarrel wsX8_canAllHold := goodIn_sub (xc (xt1 (xl (xl (xl (xt4 (xt4 (xt4 (xt1 (xt1 (xh)))))))))) (xa (xc (xt1 (xl (xl (xl (xt4 (xt4 (xt4 (xt1 (xt1 (xt1 (xh))))))))))) (xc (xt1 (xl (xl (xl (xt16 (xh)))))) (xc (xt1 (xl (xl (xl (xt16 (xt1 (xh))))))) (xc (xt1 (xl (xl (xl (xt4 (xh)))))) (xc (xt1 (xl (xl (xl (xt16 (xt1 (xt1 (xh)))))))) (xc (xt1 (xl (xl (xl (xt16 (xt1 (xt1 (xt1 (xh))))))))) (xc (xt1 (xl (xl (xl (xt16 (xt4 (xh))))))) (xc (xt1 (xl (xl (xl (xt16 (xt4 (xt1 (xh)))))))) (xc (xt1 (xl (xl (xl (xt16 (xt4 (xt1 (xt1 (xh))))))))) (xc (xt1 (xl (xl (xl (xt16 (xt4 (xt1 (xt1 (xt1 (xh)))))))))) (xc (xt1 (xl (xl (xr (xh))))) (xc (xt1 (xl (xl (xr (xt1 (xh)))))) (xc (xt1 (xl (xl (xr (xt1 (xt1 (xh))))))) (xc (xt1 (xl (xl (xl (xt4 (xt1 (xt1 (xh)))))))) (xc (xt1 (xl (xl (xl (xt4 (xt4 (xt1 (xt1 (xh))))))))) (xc (xt1 (xl (xl (xr (xt1 (xt1 (xt1 (xh)))))))) (xc (xt1 (xl (xl (xr (xt4 (xh)))))) (xc (xt1 (xl (xl (xr (xt4 (xt1 (xh))))))) (xc (xt1 (xl (xl (xr (xt4 (xt1 (xt1 (xh)))))))) (xn)))))))))))))))))))) (fun _ h => xt1 (xr (h))))) (by decide +kernel)
set_option maxRecDepth 20000 in
theorem gX9_quarrel_X8_canAllHold : GoodIn wsX9_quarrel (wsV RX9 250 RX8 yX8_canAllHold wsX8_canAllHold) := goodIn_app (goodIn_sub (xc (xt1 (xl (xl (xl (xt4 (xt4 (xt1 (xt1 (xt1 (xh)))))))))) (xc (xt1 (xl (xl (xl (xt4 (xt4 (xt4 (xh)))))))) (xc (xt1 (xl (xl (xl (xt4 (xt4 (xt4 (xt1 (xh))))))))) (xc (xt1 (xl (xl (xl (xt4 (xh)))))) (xn))))) (by decide +kernel)) ggX9_quarrel_X8_canAllHold
set_option maxRecDepth 20000 in
theorem ggX9_quarrel_X8_fewestThatQuarrel : GoodIn wsX9_quarrel wsX8_fewestThatQuarrel := goodIn_sub (xc (xt1 (xl (xl (xr (xt4 (xt4 (xt1 (xt1 (xh))))))))) (xa (xc (xt1 (xl (xl (xr (xt4 (xt4 (xt1 (xt1 (xt1 (xh)))))))))) (xc (xt1 (xl (xl (xr (xt4 (xt4 (xt4 (xh)))))))) (xc (xt1 (xl (xl (xr (xt4 (xt4 (xt4 (xt1 (xh))))))))) (xc (xt1 (xl (xl (xl (xt4 (xh)))))) (xc (xt1 (xl (xl (xr (xt4 (xt4 (xt4 (xt1 (xt1 (xh)))))))))) (xc (xt1 (xl (xl (xl (xt4 (xt4 (xt4 (xt1 (xt1 (xt1 (xh))))))))))) (xc (xt1 (xl (xl (xr (xt4 (xh)))))) (xc (xt1 (xl (xl (xl (xt16 (xh)))))) (xc (xt1 (xl (xl (xl (xt16 (xt1 (xh))))))) (xc (xt1 (xl (xl (xl (xt16 (xt1 (xt1 (xh)))))))) (xc (xt1 (xl (xl (xr (xt4 (xt4 (xt4 (xt1 (xt1 (xt1 (xh))))))))))) (xc (xt1 (xl (xl (xr (xt16 (xh)))))) (xc (xt1 (xl (xl (xr (xt16 (xt1 (xh))))))) (xc (xt1 (xl (xl (xr (xt16 (xt1 (xt1 (xh)))))))) (xc (xt1 (xl (xl (xr (xt16 (xt1 (xt1 (xt1 (xh))))))))) (xc (xt1 (xl (xl (xl (xt4 (xt1 (xt1 (xh)))))))) (xc (xt1 (xl (xl (xl (xt4 (xt4 (xt1 (xt1 (xh))))))))) (xc (xt1 (xl (xl (xr (xt1 (xt1 (xt1 (xh)))))))) (xc (xt1 (xl (xl (xr (xt4 (xt1 (xh))))))) (xc (xt1 (xl (xl (xr (xt4 (xt1 (xt1 (xh)))))))) (xc (xt1 (xl (xl (xr (xt16 (xt4 (xh))))))) (xc (xt1 (xl (xl (xr (xt16 (xt4 (xt1 (xh)))))))) (xc (xt1 (xl (xl (xr (xt16 (xt4 (xt1 (xt1 (xh))))))))) (xc (xt1 (xl (xl (xr (xt16 (xt4 (xt1 (xt1 (xt1 (xh)))))))))) (xn))))))))))))))))))))))))) (fun _ h => xt1 (xr (h))))) (by decide +kernel)
set_option maxRecDepth 20000 in
theorem gX9_quarrel_X8_fewestThatQuarrel : GoodIn wsX9_quarrel (wsV RX9 262 RX8 yX8_fewestThatQuarrel wsX8_fewestThatQuarrel) := goodIn_app (goodIn_sub (xc (xt1 (xl (xl (xr (xt4 (xt1 (xt1 (xt1 (xh))))))))) (xc (xt1 (xl (xl (xr (xt4 (xt4 (xh))))))) (xc (xt1 (xl (xl (xr (xt4 (xt4 (xt1 (xh)))))))) (xc (xt1 (xl (xl (xl (xt4 (xh)))))) (xn))))) (by decide +kernel)) ggX9_quarrel_X8_fewestThatQuarrel
theorem dX9_quarrel_0 : decode cX9_quarrel 0 = .ok (.aload_n 0, 1) := by decide +kernel
theorem dX9_quarrel_1 : decode cX9_quarrel 1 = .ok (.getfield 72, 3) := by decide +kernel
theorem dX9_quarrel_4 : decode cX9_quarrel 4 = .ok (.iload_n 1, 1) := by decide +kernel
theorem dX9_quarrel_5 : decode cX9_quarrel 5 = .ok (.invokevirtual 247, 3) := by decide +kernel
theorem dX9_quarrel_8 : decode cX9_quarrel 8 = .ok (.aload_n 0, 1) := by decide +kernel
theorem dX9_quarrel_9 : decode cX9_quarrel 9 = .ok (.getfield 72, 3) := by decide +kernel
theorem dX9_quarrel_12 : decode cX9_quarrel 12 = .ok (.invokevirtual 250, 3) := by decide +kernel
theorem dX9_quarrel_15 : decode cX9_quarrel 15 = .ok (.ifCond .eq 7, 3) := by decide +kernel
theorem dX9_quarrel_18 : decode cX9_quarrel 18 = .ok (.iconst 0, 1) := by decide +kernel
theorem dX9_quarrel_19 : decode cX9_quarrel 19 = .ok (.goto 10, 3) := by decide +kernel
theorem dX9_quarrel_22 : decode cX9_quarrel 22 = .ok (.aload_n 0, 1) := by decide +kernel
theorem dX9_quarrel_23 : decode cX9_quarrel 23 = .ok (.getfield 72, 3) := by decide +kernel
theorem dX9_quarrel_26 : decode cX9_quarrel 26 = .ok (.invokevirtual 262, 3) := by decide +kernel
theorem dX9_quarrel_29 : decode cX9_quarrel 29 = .ok (.ireturn, 1) := by decide +kernel
set_option maxRecDepth 20000 in
theorem ggX9_count_X1_countIn : GoodIn wsX9_count wsX1_countIn := goodIn_sub (xc (xt1 (xl (xl (xl (xl (xl (xt4 (xt4 (xt1 (xh)))))))))) (xa (xc (xt1 (xl (xl (xl (xl (xl (xt4 (xt4 (xt1 (xt1 (xh))))))))))) (xc (xt1 (xl (xl (xl (xl (xl (xt4 (xt4 (xt1 (xt1 (xt1 (xh)))))))))))) (xn))) (fun _ h => xt1 (xl (xl (xr (h))))))) (by decide +kernel)
set_option maxRecDepth 20000 in
theorem gX9_count_X1_countIn : GoodIn wsX9_count (wsV RX9 265 RX1 yX1_countIn wsX1_countIn) := goodIn_app (goodIn_sub (xc (xt1 (xl (xl (xl (xl (xl (xt4 (xt1 (xh))))))))) (xc (xt1 (xl (xl (xl (xl (xl (xt4 (xt1 (xt1 (xh)))))))))) (xc (xt1 (xl (xl (xl (xl (xl (xt4 (xt1 (xt1 (xt1 (xh))))))))))) (xc (xt1 (xl (xl (xl (xl (xl (xt4 (xt4 (xh))))))))) (xn))))) (by decide +kernel)) ggX9_count_X1_countIn
set_option maxRecDepth 20000 in
theorem ggX9_count_X1_oilUnbroken : GoodIn wsX9_count wsX1_oilUnbroken := goodIn_sub (xc (xt1 (xl (xl (xl (xl (xl (xt4 (xt4 (xt4 (xt1 (xt1 (xt1 (xh))))))))))))) (xa (xc (xt1 (xl (xl (xl (xl (xl (xt4 (xt4 (xt1 (xt1 (xh))))))))))) (xc (xt1 (xl (xl (xl (xl (xl (xt4 (xt4 (xt1 (xt1 (xt1 (xh)))))))))))) (xc (xt1 (xl (xl (xl (xl (xl (xt16 (xh)))))))) (xn)))) (fun _ h => xt1 (xl (xl (xr (h))))))) (by decide +kernel)
set_option maxRecDepth 20000 in
theorem gX9_count_X1_oilUnbroken : GoodIn wsX9_count (wsV RX9 268 RX1 yX1_oilUnbroken wsX1_oilUnbroken) := goodIn_app (goodIn_sub (xc (xt1 (xl (xl (xl (xl (xl (xt4 (xt4 (xt4 (xh)))))))))) (xc (xt1 (xl (xl (xl (xl (xl (xt4 (xt4 (xt4 (xt1 (xh))))))))))) (xc (xt1 (xl (xl (xl (xl (xl (xt4 (xt4 (xt4 (xt1 (xt1 (xh)))))))))))) (xc (xt1 (xl (xl (xl (xl (xl (xt4 (xt4 (xh))))))))) (xn))))) (by decide +kernel)) ggX9_count_X1_oilUnbroken
theorem dX9_count_0 : decode cX9_count 0 = .ok (.iload_n 1, 1) := by decide +kernel
theorem dX9_count_1 : decode cX9_count 1 = .ok (.tableswitch 136 0 9 #[55, 63, 71, 80, 89, 98, 107, 115, 123, 131], 55) := by decide +kernel
theorem dX9_count_56 : decode cX9_count 56 = .ok (.aload_n 0, 1) := by decide +kernel
theorem dX9_count_57 : decode cX9_count 57 = .ok (.getfield 26, 3) := by decide +kernel
theorem dX9_count_60 : decode cX9_count 60 = .ok (.getfield 95, 3) := by decide +kernel
theorem dX9_count_63 : decode cX9_count 63 = .ok (.ireturn, 1) := by decide +kernel
theorem dX9_count_64 : decode cX9_count 64 = .ok (.aload_n 0, 1) := by decide +kernel
theorem dX9_count_65 : decode cX9_count 65 = .ok (.getfield 35, 3) := by decide +kernel
theorem dX9_count_68 : decode cX9_count 68 = .ok (.getfield 109, 3) := by decide +kernel
theorem dX9_count_71 : decode cX9_count 71 = .ok (.ireturn, 1) := by decide +kernel
theorem dX9_count_72 : decode cX9_count 72 = .ok (.aload_n 0, 1) := by decide +kernel
theorem dX9_count_73 : decode cX9_count 73 = .ok (.getfield 35, 3) := by decide +kernel
theorem dX9_count_76 : decode cX9_count 76 = .ok (.iconst 0, 1) := by decide +kernel
theorem dX9_count_77 : decode cX9_count 77 = .ok (.invokevirtual 265, 3) := by decide +kernel
theorem dX9_count_80 : decode cX9_count 80 = .ok (.ireturn, 1) := by decide +kernel
theorem dX9_count_81 : decode cX9_count 81 = .ok (.aload_n 0, 1) := by decide +kernel
theorem dX9_count_82 : decode cX9_count 82 = .ok (.getfield 35, 3) := by decide +kernel
theorem dX9_count_85 : decode cX9_count 85 = .ok (.iconst 1, 1) := by decide +kernel
theorem dX9_count_86 : decode cX9_count 86 = .ok (.invokevirtual 265, 3) := by decide +kernel
theorem dX9_count_89 : decode cX9_count 89 = .ok (.ireturn, 1) := by decide +kernel
theorem dX9_count_90 : decode cX9_count 90 = .ok (.aload_n 0, 1) := by decide +kernel
theorem dX9_count_91 : decode cX9_count 91 = .ok (.getfield 35, 3) := by decide +kernel
theorem dX9_count_94 : decode cX9_count 94 = .ok (.iconst 2, 1) := by decide +kernel
theorem dX9_count_95 : decode cX9_count 95 = .ok (.invokevirtual 265, 3) := by decide +kernel
theorem dX9_count_98 : decode cX9_count 98 = .ok (.ireturn, 1) := by decide +kernel
theorem dX9_count_99 : decode cX9_count 99 = .ok (.aload_n 0, 1) := by decide +kernel
theorem dX9_count_100 : decode cX9_count 100 = .ok (.getfield 35, 3) := by decide +kernel
theorem dX9_count_103 : decode cX9_count 103 = .ok (.iconst 3, 1) := by decide +kernel
theorem dX9_count_104 : decode cX9_count 104 = .ok (.invokevirtual 265, 3) := by decide +kernel
theorem dX9_count_107 : decode cX9_count 107 = .ok (.ireturn, 1) := by decide +kernel
theorem dX9_count_108 : decode cX9_count 108 = .ok (.aload_n 0, 1) := by decide +kernel
theorem dX9_count_109 : decode cX9_count 109 = .ok (.getfield 35, 3) := by decide +kernel
theorem dX9_count_112 : decode cX9_count 112 = .ok (.invokevirtual 268, 3) := by decide +kernel
theorem dX9_count_115 : decode cX9_count 115 = .ok (.ireturn, 1) := by decide +kernel
theorem dX9_count_116 : decode cX9_count 116 = .ok (.aload_n 0, 1) := by decide +kernel
theorem dX9_count_117 : decode cX9_count 117 = .ok (.getfield 65, 3) := by decide +kernel
theorem dX9_count_120 : decode cX9_count 120 = .ok (.getfield 215, 3) := by decide +kernel
theorem dX9_count_123 : decode cX9_count 123 = .ok (.ireturn, 1) := by decide +kernel
theorem dX9_count_124 : decode cX9_count 124 = .ok (.aload_n 0, 1) := by decide +kernel
theorem dX9_count_125 : decode cX9_count 125 = .ok (.getfield 72, 3) := by decide +kernel
theorem dX9_count_128 : decode cX9_count 128 = .ok (.getfield 240, 3) := by decide +kernel
theorem dX9_count_131 : decode cX9_count 131 = .ok (.ireturn, 1) := by decide +kernel
theorem dX9_count_132 : decode cX9_count 132 = .ok (.aload_n 0, 1) := by decide +kernel
theorem dX9_count_133 : decode cX9_count 133 = .ok (.getfield 80, 3) := by decide +kernel
theorem dX9_count_136 : decode cX9_count 136 = .ok (.ireturn, 1) := by decide +kernel
theorem dX9_count_137 : decode cX9_count 137 = .ok (.iconst (-1), 1) := by decide +kernel
theorem dX9_count_138 : decode cX9_count 138 = .ok (.ireturn, 1) := by decide +kernel
theorem dX9_needIndex_0 : decode cX9_needIndex 0 = .ok (.iload_n 0, 1) := by decide +kernel
theorem dX9_needIndex_1 : decode cX9_needIndex 1 = .ok (.ifCond .lt 8, 3) := by decide +kernel
theorem dX9_needIndex_4 : decode cX9_needIndex 4 = .ok (.iload_n 0, 1) := by decide +kernel
theorem dX9_needIndex_5 : decode cX9_needIndex 5 = .ok (.iload_n 1, 1) := by decide +kernel
theorem dX9_needIndex_6 : decode cX9_needIndex 6 = .ok (.if_icmp .lt 14, 3) := by decide +kernel
theorem dX9_needIndex_9 : decode cX9_needIndex 9 = .ok (.new 271, 3) := by decide +kernel
theorem dX9_needIndex_12 : decode cX9_needIndex 12 = .ok (.dup, 1) := by decide +kernel
theorem dX9_needIndex_13 : decode cX9_needIndex 13 = .ok (.ldc_w 273, 3) := by decide +kernel
theorem dX9_needIndex_16 : decode cX9_needIndex 16 = .ok (.invokespecial 275, 3) := by decide +kernel
theorem dX9_needIndex_19 : decode cX9_needIndex 19 = .ok (.athrow, 1) := by decide +kernel
theorem dX9_needIndex_20 : decode cX9_needIndex 20 = .ok (.return_, 1) := by decide +kernel
theorem dX9_needNumber_0 : decode cX9_needNumber 0 = .ok (.iload_n 0, 1) := by decide +kernel
theorem dX9_needNumber_1 : decode cX9_needNumber 1 = .ok (.iload_n 1, 1) := by decide +kernel
theorem dX9_needNumber_2 : decode cX9_needNumber 2 = .ok (.if_icmp .lt 8, 3) := by decide +kernel
theorem dX9_needNumber_5 : decode cX9_needNumber 5 = .ok (.iload_n 0, 1) := by decide +kernel
theorem dX9_needNumber_6 : decode cX9_needNumber 6 = .ok (.iload_n 2, 1) := by decide +kernel
theorem dX9_needNumber_7 : decode cX9_needNumber 7 = .ok (.if_icmp .le 14, 3) := by decide +kernel
theorem dX9_needNumber_10 : decode cX9_needNumber 10 = .ok (.new 193, 3) := by decide +kernel
theorem dX9_needNumber_13 : decode cX9_needNumber 13 = .ok (.dup, 1) := by decide +kernel
theorem dX9_needNumber_14 : decode cX9_needNumber 14 = .ok (.ldc_w 276, 3) := by decide +kernel
theorem dX9_needNumber_17 : decode cX9_needNumber 17 = .ok (.invokespecial 197, 3) := by decide +kernel
theorem dX9_needNumber_20 : decode cX9_needNumber 20 = .ok (.athrow, 1) := by decide +kernel
theorem dX9_needNumber_21 : decode cX9_needNumber 21 = .ok (.return_, 1) := by decide +kernel
theorem dX9_needPlace_0 : decode cX9_needPlace 0 = .ok (.iload_n 0, 1) := by decide +kernel
theorem dX9_needPlace_1 : decode cX9_needPlace 1 = .ok (.iload_n 1, 1) := by decide +kernel
theorem dX9_needPlace_2 : decode cX9_needPlace 2 = .ok (.if_icmp .lt 14, 3) := by decide +kernel
theorem dX9_needPlace_5 : decode cX9_needPlace 5 = .ok (.new 278, 3) := by decide +kernel
theorem dX9_needPlace_8 : decode cX9_needPlace 8 = .ok (.dup, 1) := by decide +kernel
theorem dX9_needPlace_9 : decode cX9_needPlace 9 = .ok (.ldc_w 280, 3) := by decide +kernel
theorem dX9_needPlace_12 : decode cX9_needPlace 12 = .ok (.invokespecial 282, 3) := by decide +kernel
theorem dX9_needPlace_15 : decode cX9_needPlace 15 = .ok (.athrow, 1) := by decide +kernel
theorem dX9_needPlace_16 : decode cX9_needPlace 16 = .ok (.return_, 1) := by decide +kernel
set_option maxRecDepth 20000 in
theorem ggX9_needStampOrNone_X9_needIndex : GoodIn wsX9_needStampOrNone wsX9_needIndex := goodIn_sub (xc (xt1 (xl (xt1 (xt1 (xt1 (xh)))))) (xa (xc (xt1 (xl (xt4 (xh)))) (xc (xt1 (xl (xt4 (xt1 (xh))))) (xn))) (fun _ h => xt1 (xr (h))))) (by decide +kernel)
set_option maxRecDepth 20000 in
theorem gX9_needStampOrNone_X9_needIndex : GoodIn wsX9_needStampOrNone (va_wsS RX9 106 yX9_needIndex wsX9_needIndex) := goodIn_app (goodIn_sub (xc (xt1 (xl (xh))) (xc (xt1 (xl (xt1 (xh)))) (xc (xt1 (xl (xt1 (xt1 (xh))))) (xn)))) (by decide +kernel)) ggX9_needStampOrNone_X9_needIndex
theorem dX9_needStampOrNone_0 : decode cX9_needStampOrNone 0 = .ok (.iload_n 0, 1) := by decide +kernel
theorem dX9_needStampOrNone_1 : decode cX9_needStampOrNone 1 = .ok (.iconst (-1), 1) := by decide +kernel
theorem dX9_needStampOrNone_2 : decode cX9_needStampOrNone 2 = .ok (.if_icmp .eq 9, 3) := by decide +kernel
theorem dX9_needStampOrNone_5 : decode cX9_needStampOrNone 5 = .ok (.iload_n 0, 1) := by decide +kernel
theorem dX9_needStampOrNone_6 : decode cX9_needStampOrNone 6 = .ok (.bipush 12, 2) := by decide +kernel
theorem dX9_needStampOrNone_8 : decode cX9_needStampOrNone 8 = .ok (.invokestatic 106, 3) := by decide +kernel
theorem dX9_needStampOrNone_11 : decode cX9_needStampOrNone 11 = .ok (.return_, 1) := by decide +kernel
set_option maxRecDepth 20000 in
theorem ggX9_needHold_X9_needIndex : GoodIn wsX9_needHold wsX9_needIndex := goodIn_sub (xc (xt1 (xl (xl (xl (xt4 (xh)))))) (xa (xc (xt1 (xl (xl (xl (xt4 (xt1 (xh))))))) (xc (xt1 (xl (xl (xl (xt4 (xt1 (xt1 (xh)))))))) (xn))) (fun _ h => xt1 (xr (h))))) (by decide +kernel)
set_option maxRecDepth 20000 in
theorem gX9_needHold_X9_needIndex : GoodIn wsX9_needHold (va_wsS RX9 106 yX9_needIndex wsX9_needIndex) := goodIn_app (goodIn_sub (xc (xt1 (xl (xl (xl (xt1 (xh)))))) (xc (xt1 (xl (xl (xl (xt1 (xt1 (xh))))))) (xc (xt1 (xl (xl (xl (xt1 (xt1 (xt1 (xh)))))))) (xn)))) (by decide +kernel)) ggX9_needHold_X9_needIndex
theorem dX9_needHold_0 : decode cX9_needHold 0 = .ok (.iload_n 1, 1) := by decide +kernel
theorem dX9_needHold_1 : decode cX9_needHold 1 = .ok (.aload_n 0, 1) := by decide +kernel
theorem dX9_needHold_2 : decode cX9_needHold 2 = .ok (.getfield 44, 3) := by decide +kernel
theorem dX9_needHold_5 : decode cX9_needHold 5 = .ok (.getfield 115, 3) := by decide +kernel
theorem dX9_needHold_8 : decode cX9_needHold 8 = .ok (.invokestatic 106, 3) := by decide +kernel
theorem dX9_needHold_11 : decode cX9_needHold 11 = .ok (.iload_n 2, 1) := by decide +kernel
theorem dX9_needHold_12 : decode cX9_needHold 12 = .ok (.bipush 6, 2) := by decide +kernel
theorem dX9_needHold_14 : decode cX9_needHold 14 = .ok (.invokestatic 106, 3) := by decide +kernel
theorem dX9_needHold_17 : decode cX9_needHold 17 = .ok (.return_, 1) := by decide +kernel
set_option maxRecDepth 20000 in
theorem ggX9_falsehoodAt_X4_due : GoodIn wsX9_falsehoodAt wsX4_due := goodIn_sub (xc (xt1 (xl (xl (xl (xl (xt4 (xt1 (xt1 (xt1 (xh)))))))))) (xa (xc (xt1 (xl (xl (xl (xl (xt4 (xt4 (xh)))))))) (xn)) (fun _ h => xt1 (xr (h))))) (by decide +kernel)
set_option maxRecDepth 20000 in
theorem gX9_falsehoodAt_X4_due : GoodIn wsX9_falsehoodAt (wsV RX9 286 RX4 yX4_due wsX4_due) := goodIn_app (goodIn_sub (xc (xt1 (xl (xl (xl (xl (xt1 (xt1 (xt1 (xh))))))))) (xc (xt1 (xl (xl (xl (xl (xt4 (xh))))))) (xc (xt1 (xl (xl (xl (xl (xt4 (xt1 (xh)))))))) (xc (xt1 (xl (xl (xl (xl (xt4 (xt1 (xt1 (xh))))))))) (xn))))) (by decide +kernel)) ggX9_falsehoodAt_X4_due
theorem dX9_falsehoodAt_0 : decode cX9_falsehoodAt 0 = .ok (.aload_n 0, 1) := by decide +kernel
theorem dX9_falsehoodAt_1 : decode cX9_falsehoodAt 1 = .ok (.getfield 19, 3) := by decide +kernel
theorem dX9_falsehoodAt_4 : decode cX9_falsehoodAt 4 = .ok (.getfield 283, 3) := by decide +kernel
theorem dX9_falsehoodAt_7 : decode cX9_falsehoodAt 7 = .ok (.iconst 0, 1) := by decide +kernel
theorem dX9_falsehoodAt_8 : decode cX9_falsehoodAt 8 = .ok (.iaload, 1) := by decide +kernel
theorem dX9_falsehoodAt_9 : decode cX9_falsehoodAt 9 = .ok (.istore_n 2, 1) := by decide +kernel
theorem dX9_falsehoodAt_10 : decode cX9_falsehoodAt 10 = .ok (.iload_n 2, 1) := by decide +kernel
theorem dX9_falsehoodAt_11 : decode cX9_falsehoodAt 11 = .ok (.aload_n 0, 1) := by decide +kernel
theorem dX9_falsehoodAt_12 : decode cX9_falsehoodAt 12 = .ok (.getfield 35, 3) := by decide +kernel
theorem dX9_falsehoodAt_15 : decode cX9_falsehoodAt 15 = .ok (.getfield 109, 3) := by decide +kernel
theorem dX9_falsehoodAt_18 : decode cX9_falsehoodAt 18 = .ok (.if_icmp .ge 16, 3) := by decide +kernel
theorem dX9_falsehoodAt_21 : decode cX9_falsehoodAt 21 = .ok (.aload_n 0, 1) := by decide +kernel
theorem dX9_falsehoodAt_22 : decode cX9_falsehoodAt 22 = .ok (.getfield 35, 3) := by decide +kernel
theorem dX9_falsehoodAt_25 : decode cX9_falsehoodAt 25 = .ok (.getfield 136, 3) := by decide +kernel
theorem dX9_falsehoodAt_28 : decode cX9_falsehoodAt 28 = .ok (.iload_n 2, 1) := by decide +kernel
theorem dX9_falsehoodAt_29 : decode cX9_falsehoodAt 29 = .ok (.iaload, 1) := by decide +kernel
theorem dX9_falsehoodAt_30 : decode cX9_falsehoodAt 30 = .ok (.iconst 1, 1) := by decide +kernel
theorem dX9_falsehoodAt_31 : decode cX9_falsehoodAt 31 = .ok (.if_icmp .eq 5, 3) := by decide +kernel
theorem dX9_falsehoodAt_34 : decode cX9_falsehoodAt 34 = .ok (.iconst 1, 1) := by decide +kernel
theorem dX9_falsehoodAt_35 : decode cX9_falsehoodAt 35 = .ok (.ireturn, 1) := by decide +kernel
theorem dX9_falsehoodAt_36 : decode cX9_falsehoodAt 36 = .ok (.aload_n 0, 1) := by decide +kernel
theorem dX9_falsehoodAt_37 : decode cX9_falsehoodAt 37 = .ok (.getfield 19, 3) := by decide +kernel
theorem dX9_falsehoodAt_40 : decode cX9_falsehoodAt 40 = .ok (.getfield 283, 3) := by decide +kernel
theorem dX9_falsehoodAt_43 : decode cX9_falsehoodAt 43 = .ok (.iconst 1, 1) := by decide +kernel
theorem dX9_falsehoodAt_44 : decode cX9_falsehoodAt 44 = .ok (.iaload, 1) := by decide +kernel
theorem dX9_falsehoodAt_45 : decode cX9_falsehoodAt 45 = .ok (.aload_n 0, 1) := by decide +kernel
theorem dX9_falsehoodAt_46 : decode cX9_falsehoodAt 46 = .ok (.getfield 35, 3) := by decide +kernel
theorem dX9_falsehoodAt_49 : decode cX9_falsehoodAt 49 = .ok (.getfield 149, 3) := by decide +kernel
theorem dX9_falsehoodAt_52 : decode cX9_falsehoodAt 52 = .ok (.iload_n 2, 1) := by decide +kernel
theorem dX9_falsehoodAt_53 : decode cX9_falsehoodAt 53 = .ok (.iaload, 1) := by decide +kernel
theorem dX9_falsehoodAt_54 : decode cX9_falsehoodAt 54 = .ok (.if_icmp .eq 5, 3) := by decide +kernel
theorem dX9_falsehoodAt_57 : decode cX9_falsehoodAt 57 = .ok (.iconst 2, 1) := by decide +kernel
theorem dX9_falsehoodAt_58 : decode cX9_falsehoodAt 58 = .ok (.ireturn, 1) := by decide +kernel
theorem dX9_falsehoodAt_59 : decode cX9_falsehoodAt 59 = .ok (.aload_n 0, 1) := by decide +kernel
theorem dX9_falsehoodAt_60 : decode cX9_falsehoodAt 60 = .ok (.getfield 19, 3) := by decide +kernel
theorem dX9_falsehoodAt_63 : decode cX9_falsehoodAt 63 = .ok (.getfield 283, 3) := by decide +kernel
theorem dX9_falsehoodAt_66 : decode cX9_falsehoodAt 66 = .ok (.iconst 2, 1) := by decide +kernel
theorem dX9_falsehoodAt_67 : decode cX9_falsehoodAt 67 = .ok (.iaload, 1) := by decide +kernel
theorem dX9_falsehoodAt_68 : decode cX9_falsehoodAt 68 = .ok (.aload_n 0, 1) := by decide +kernel
theorem dX9_falsehoodAt_69 : decode cX9_falsehoodAt 69 = .ok (.getfield 35, 3) := by decide +kernel
theorem dX9_falsehoodAt_72 : decode cX9_falsehoodAt 72 = .ok (.getfield 143, 3) := by decide +kernel
theorem dX9_falsehoodAt_75 : decode cX9_falsehoodAt 75 = .ok (.iload_n 2, 1) := by decide +kernel
theorem dX9_falsehoodAt_76 : decode cX9_falsehoodAt 76 = .ok (.iaload, 1) := by decide +kernel
theorem dX9_falsehoodAt_77 : decode cX9_falsehoodAt 77 = .ok (.if_icmp .eq 5, 3) := by decide +kernel
