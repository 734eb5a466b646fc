theorem kdX10_init_0 : (decide (decode cX10_init 0 = .ok (.aload_n 0, 1)) && (decide (decode cX10_init 1 = .ok (.invokespecial 1, 3)) && (decide (decode cX10_init 4 = .ok (.aload_n 0, 1)) && (decide (decode cX10_init 5 = .ok (.bipush 8, 2)) && (decide (decode cX10_init 7 = .ok (.newarray .int, 2)) && (decide (decode cX10_init 9 = .ok (.putfield 9, 3)) && (decide (decode cX10_init 12 = .ok (.aload_n 0, 1)) && (decide (decode cX10_init 13 = .ok (.bipush 8, 2)) && (decide (decode cX10_init 15 = .ok (.newarray .int, 2)) && (decide (decode cX10_init 17 = .ok (.putfield 13, 3)) && (decide (decode cX10_init 20 = .ok (.aload_n 0, 1)) && (decide (decode cX10_init 21 = .ok (.bipush 8, 2)) && (decide (decode cX10_init 23 = .ok (.newarray .int, 2)) && (decide (decode cX10_init 25 = .ok (.putfield 16, 3)) && (decide (decode cX10_init 28 = .ok (.aload_n 0, 1)) && (decide (decode cX10_init 29 = .ok (.bipush 60, 2)) && (decide (decode cX10_init 31 = .ok (.newarray .int, 2)) && (decide (decode cX10_init 33 = .ok (.putfield 19, 3)) && (decide (decode cX10_init 36 = .ok (.aload_n 0, 1)) && (decide (decode cX10_init 37 = .ok (.bipush 60, 2)) && (decide (decode cX10_init 39 = .ok (.newarray .int, 2)) && (decide (decode cX10_init 41 = .ok (.putfield 22, 3)) && (decide (decode cX10_init 44 = .ok (.aload_n 0, 1)) && (decide (decode cX10_init 45 = .ok (.bipush 60, 2)) && (decide (decode cX10_init 47 = .ok (.newarray .int, 2)) && (decide (decode cX10_init 49 = .ok (.putfield 25, 3)) && (decide (decode cX10_init 52 = .ok (.aload_n 0, 1)) && (decide (decode cX10_init 53 = .ok (.bipush 60, 2)) && (decide (decode cX10_init 55 = .ok (.newarray .int, 2)) && (decide (decode cX10_init 57 = .ok (.putfield 28, 3)) && (decide (decode cX10_init 60 = .ok (.aload_n 0, 1)) && (decide (decode cX10_init 61 = .ok (.bipush 60, 2)))))))))))))))))))))))))))))))))) = true := by decide +kernel
theorem dX10_init_0 : decode cX10_init 0 = .ok (.aload_n 0, 1) := of_decide_eq_true (hb_l (kdX10_init_0))
theorem dX10_init_1 : decode cX10_init 1 = .ok (.invokespecial 1, 3) := of_decide_eq_true (hb_l (hb_r (kdX10_init_0)))
theorem dX10_init_4 : decode cX10_init 4 = .ok (.aload_n 0, 1) := of_decide_eq_true (hb_l (hb_r (hb_r (kdX10_init_0))))
theorem dX10_init_5 : decode cX10_init 5 = .ok (.bipush 8, 2) := of_decide_eq_true (hb_l (hb_r (hb_r (hb_r (kdX10_init_0)))))
theorem dX10_init_7 : decode cX10_init 7 = .ok (.newarray .int, 2) := of_decide_eq_true (hb_l (hb_r (hb_r (hb_r (hb_r (kdX10_init_0))))))
theorem dX10_init_9 : decode cX10_init 9 = .ok (.putfield 9, 3) := of_decide_eq_true (hb_l (hb_r (hb_r (hb_r (hb_r (hb_r (kdX10_init_0)))))))
theorem dX10_init_12 : decode cX10_init 12 = .ok (.aload_n 0, 1) := of_decide_eq_true (hb_l (hb_r (hb_r (hb_r (hb_r (hb_r (hb_r (kdX10_init_0))))))))
theorem dX10_init_13 : decode cX10_init 13 = .ok (.bipush 8, 2) := of_decide_eq_true (hb_l (hb_r (hb_r (hb_r (hb_r (hb_r (hb_r (hb_r (kdX10_init_0)))))))))
theorem dX10_init_15 : decode cX10_init 15 = .ok (.newarray .int, 2) := of_decide_eq_true (hb_l (hb_r (hb_r (hb_r (hb_r (hb_r (hb_r (hb_r (hb_r (kdX10_init_0))))))))))
theorem dX10_init_17 : decode cX10_init 17 = .ok (.putfield 13, 3) := of_decide_eq_true (hb_l (hb_r (hb_r (hb_r (hb_r (hb_r (hb_r (hb_r (hb_r (hb_r (kdX10_init_0)))))))))))
theorem dX10_init_20 : decode cX10_init 20 = .ok (.aload_n 0, 1) := of_decide_eq_true (hb_l (hb_r (hb_r (hb_r (hb_r (hb_r (hb_r (hb_r (hb_r (hb_r (hb_r (kdX10_init_0))))))))))))
theorem dX10_init_21 : decode cX10_init 21 = .ok (.bipush 8, 2) := of_decide_eq_true (hb_l (hb_r (hb_r (hb_r (hb_r (hb_r (hb_r (hb_r (hb_r (hb_r (hb_r (hb_r (kdX10_init_0)))))))))))))
theorem dX10_init_23 : decode cX10_init 23 = .ok (.newarray .int, 2) := of_decide_eq_true (hb_l (hb_r (hb_r (hb_r (hb_r (hb_r (hb_r (hb_r (hb_r (hb_r (hb_r (hb_r (hb_r (kdX10_init_0))))))))))))))
theorem dX10_init_25 : decode cX10_init 25 = .ok (.putfield 16, 3) := of_decide_eq_true (hb_l (hb_r (hb_r (hb_r (hb_r (hb_r (hb_r (hb_r (hb_r (hb_r (hb_r (hb_r (hb_r (hb_r (kdX10_init_0)))))))))))))))
theorem dX10_init_28 : decode cX10_init 28 = .ok (.aload_n 0, 1) := of_decide_eq_true (hb_l (hb_r (hb_r (hb_r (hb_r (hb_r (hb_r (hb_r (hb_r (hb_r (hb_r (hb_r (hb_r (hb_r (hb_r (kdX10_init_0))))))))))))))))
theorem dX10_init_29 : decode cX10_init 29 = .ok (.bipush 60, 2) := of_decide_eq_true (hb_l (hb_r (hb_r (hb_r (hb_r (hb_r (hb_r (hb_r (hb_r (hb_r (hb_r (hb_r (hb_r (hb_r (hb_r (hb_r (kdX10_init_0)))))))))))))))))
theorem dX10_init_31 : decode cX10_init 31 = .ok (.newarray .int, 2) := of_decide_eq_true (hb_l (hb_r (hb_r (hb_r (hb_r (hb_r (hb_r (hb_r (hb_r (hb_r (hb_r (hb_r (hb_r (hb_r (hb_r (hb_r (hb_r (kdX10_init_0))))))))))))))))))
theorem dX10_init_33 : decode cX10_init 33 = .ok (.putfield 19, 3) := of_decide_eq_true (hb_l (hb_r (hb_r (hb_r (hb_r (hb_r (hb_r (hb_r (hb_r (hb_r (hb_r (hb_r (hb_r (hb_r (hb_r (hb_r (hb_r (hb_r (kdX10_init_0)))))))))))))))))))
theorem dX10_init_36 : decode cX10_init 36 = .ok (.aload_n 0, 1) := of_decide_eq_true (hb_l (hb_r (hb_r (hb_r (hb_r (hb_r (hb_r (hb_r (hb_r (hb_r (hb_r (hb_r (hb_r (hb_r (hb_r (hb_r (hb_r (hb_r (hb_r (kdX10_init_0))))))))))))))))))))
theorem dX10_init_37 : decode cX10_init 37 = .ok (.bipush 60, 2) := of_decide_eq_true (hb_l (hb_r (hb_r (hb_r (hb_r (hb_r (hb_r (hb_r (hb_r (hb_r (hb_r (hb_r (hb_r (hb_r (hb_r (hb_r (hb_r (hb_r (hb_r (hb_r (kdX10_init_0)))))))))))))))))))))
theorem dX10_init_39 : decode cX10_init 39 = .ok (.newarray .int, 2) := of_decide_eq_true (hb_l (hb_r (hb_r (hb_r (hb_r (hb_r (hb_r (hb_r (hb_r (hb_r (hb_r (hb_r (hb_r (hb_r (hb_r (hb_r (hb_r (hb_r (hb_r (hb_r (hb_r (kdX10_init_0))))))))))))))))))))))
theorem dX10_init_41 : decode cX10_init 41 = .ok (.putfield 22, 3) := of_decide_eq_true (hb_l (hb_r (hb_r (hb_r (hb_r (hb_r (hb_r (hb_r (hb_r (hb_r (hb_r (hb_r (hb_r (hb_r (hb_r (hb_r (hb_r (hb_r (hb_r (hb_r (hb_r (hb_r (kdX10_init_0)))))))))))))))))))))))
theorem dX10_init_44 : decode cX10_init 44 = .ok (.aload_n 0, 1) := of_decide_eq_true (hb_l (hb_r (hb_r (hb_r (hb_r (hb_r (hb_r (hb_r (hb_r (hb_r (hb_r (hb_r (hb_r (hb_r (hb_r (hb_r (hb_r (hb_r (hb_r (hb_r (hb_r (hb_r (hb_r (kdX10_init_0))))))))))))))))))))))))
theorem dX10_init_45 : decode cX10_init 45 = .ok (.bipush 60, 2) := of_decide_eq_true (hb_l (hb_r (hb_r (hb_r (hb_r (hb_r (hb_r (hb_r (hb_r (hb_r (hb_r (hb_r (hb_r (hb_r (hb_r (hb_r (hb_r (hb_r (hb_r (hb_r (hb_r (hb_r (hb_r (hb_r (kdX10_init_0)))))))))))))))))))))))))
theorem dX10_init_47 : decode cX10_init 47 = .ok (.newarray .int, 2) := of_decide_eq_true (hb_l (hb_r (hb_r (hb_r (hb_r (hb_r (hb_r (hb_r (hb_r (hb_r (hb_r (hb_r (hb_r (hb_r (hb_r (hb_r (hb_r (hb_r (hb_r (hb_r (hb_r (hb_r (hb_r (hb_r (hb_r (kdX10_init_0))))))))))))))))))))))))))
theorem dX10_init_49 : decode cX10_init 49 = .ok (.putfield 25, 3) := of_decide_eq_true (hb_l (hb_r (hb_r (hb_r (hb_r (hb_r (hb_r (hb_r (hb_r (hb_r (hb_r (hb_r (hb_r (hb_r (hb_r (hb_r (hb_r (hb_r (hb_r (hb_r (hb_r (hb_r (hb_r (hb_r (hb_r (hb_r (kdX10_init_0)))))))))))))))))))))))))))
theorem dX10_init_52 : decode cX10_init 52 = .ok (.aload_n 0, 1) := of_decide_eq_true (hb_l (hb_r (hb_r (hb_r (hb_r (hb_r (hb_r (hb_r (hb_r (hb_r (hb_r (hb_r (hb_r (hb_r (hb_r (hb_r (hb_r (hb_r (hb_r (hb_r (hb_r (hb_r (hb_r (hb_r (hb_r (hb_r (hb_r (kdX10_init_0))))))))))))))))))))))))))))
theorem dX10_init_53 : decode cX10_init 53 = .ok (.bipush 60, 2) := of_decide_eq_true (hb_l (hb_r (hb_r (hb_r (hb_r (hb_r (hb_r (hb_r (hb_r (hb_r (hb_r (hb_r (hb_r (hb_r (hb_r (hb_r (hb_r (hb_r (hb_r (hb_r (hb_r (hb_r (hb_r (hb_r (hb_r (hb_r (hb_r (hb_r (kdX10_init_0)))))))))))))))))))))))))))))
theorem dX10_init_55 : decode cX10_init 55 = .ok (.newarray .int, 2) := of_decide_eq_true (hb_l (hb_r (hb_r (hb_r (hb_r (hb_r (hb_r (hb_r (hb_r (hb_r (hb_r (hb_r (hb_r (hb_r (hb_r (hb_r (hb_r (hb_r (hb_r (hb_r (hb_r (hb_r (hb_r (hb_r (hb_r (hb_r (hb_r (hb_r (hb_r (kdX10_init_0))))))))))))))))))))))))))))))
theorem dX10_init_57 : decode cX10_init 57 = .ok (.putfield 28, 3) := of_decide_eq_true (hb_l (hb_r (hb_r (hb_r (hb_r (hb_r (hb_r (hb_r (hb_r (hb_r (hb_r (hb_r (hb_r (hb_r (hb_r (hb_r (hb_r (hb_r (hb_r (hb_r (hb_r (hb_r (hb_r (hb_r (hb_r (hb_r (hb_r (hb_r (hb_r (hb_r (kdX10_init_0)))))))))))))))))))))))))))))))
theorem dX10_init_60 : decode cX10_init 60 = .ok (.aload_n 0, 1) := of_decide_eq_true (hb_l (hb_r (hb_r (hb_r (hb_r (hb_r (hb_r (hb_r (hb_r (hb_r (hb_r (hb_r (hb_r (hb_r (hb_r (hb_r (hb_r (hb_r (hb_r (hb_r (hb_r (hb_r (hb_r (hb_r (hb_r (hb_r (hb_r (hb_r (hb_r (hb_r (hb_r (kdX10_init_0))))))))))))))))))))))))))))))))
theorem dX10_init_61 : decode cX10_init 61 = .ok (.bipush 60, 2) := of_decide_eq_true (hb_r (hb_r (hb_r (hb_r (hb_r (hb_r (hb_r (hb_r (hb_r (hb_r (hb_r (hb_r (hb_r (hb_r (hb_r (hb_r (hb_r (hb_r (hb_r (hb_r (hb_r (hb_r (hb_r (hb_r (hb_r (hb_r (hb_r (hb_r (hb_r (hb_r (hb_r (kdX10_init_0))))))))))))))))))))))))))))))))
theorem kdX10_init_63 : (decide (decode cX10_init 63 = .ok (.newarray .int, 2)) && (decide (decode cX10_init 65 = .ok (.putfield 31, 3)) && (decide (decode cX10_init 68 = .ok (.aload_n 0, 1)) && (decide (decode cX10_init 69 = .ok (.bipush 60, 2)) && (decide (decode cX10_init 71 = .ok (.newarray .int, 2)) && (decide (decode cX10_init 73 = .ok (.putfield 34, 3)) && (decide (decode cX10_init 76 = .ok (.aload_n 0, 1)) && (decide (decode cX10_init 77 = .ok (.sipush 240, 3)) && (decide (decode cX10_init 80 = .ok (.newarray .int, 2)) && (decide (decode cX10_init 82 = .ok (.putfield 37, 3)) && (decide (decode cX10_init 85 = .ok (.aload_n 0, 1)) && (decide (decode cX10_init 86 = .ok (.bipush 24, 2)) && (decide (decode cX10_init 88 = .ok (.newarray .int, 2)) && (decide (decode cX10_init 90 = .ok (.putfield 40, 3)) && (decide (decode cX10_init 93 = .ok (.aload_n 0, 1)) && (decide (decode cX10_init 94 = .ok (.bipush 10, 2)) && (decide (decode cX10_init 96 = .ok (.newarray .boolean, 2)) && (decide (decode cX10_init 98 = .ok (.putfield 43, 3)) && (decide (decode cX10_init 101 = .ok (.aload_n 0, 1)) && (decide (decode cX10_init 102 = .ok (.sipush 4096, 3)) && (decide (decode cX10_init 105 = .ok (.newarray .boolean, 2)) && (decide (decode cX10_init 107 = .ok (.putfield 47, 3)) && (decide (decode cX10_init 110 = .ok (.aload_n 0, 1)) && (decide (decode cX10_init 111 = .ok (.bipush 12, 2)) && (decide (decode cX10_init 113 = .ok (.newarray .int, 2)) && (decide (decode cX10_init 115 = .ok (.putfield 50, 3)) && (decide (decode cX10_init 118 = .ok (.aload_n 0, 1)) && (decide (decode cX10_init 119 = .ok (.bipush 8, 2)) && (decide (decode cX10_init 121 = .ok (.newarray .int, 2)) && (decide (decode cX10_init 123 = .ok (.dup, 1)) && (decide (decode cX10_init 124 = .ok (.iconst 0, 1)) && (decide (decode cX10_init 125 = .ok (.bipush 10, 2)))))))))))))))))))))))))))))))))) = true := by decide +kernel
theorem dX10_init_63 : decode cX10_init 63 = .ok (.newarray .int, 2) := of_decide_eq_true (hb_l (kdX10_init_63))
theorem dX10_init_65 : decode cX10_init 65 = .ok (.putfield 31, 3) := of_decide_eq_true (hb_l (hb_r (kdX10_init_63)))
theorem dX10_init_68 : decode cX10_init 68 = .ok (.aload_n 0, 1) := of_decide_eq_true (hb_l (hb_r (hb_r (kdX10_init_63))))
theorem dX10_init_69 : decode cX10_init 69 = .ok (.bipush 60, 2) := of_decide_eq_true (hb_l (hb_r (hb_r (hb_r (kdX10_init_63)))))
theorem dX10_init_71 : decode cX10_init 71 = .ok (.newarray .int, 2) := of_decide_eq_true (hb_l (hb_r (hb_r (hb_r (hb_r (kdX10_init_63))))))
theorem dX10_init_73 : decode cX10_init 73 = .ok (.putfield 34, 3) := of_decide_eq_true (hb_l (hb_r (hb_r (hb_r (hb_r (hb_r (kdX10_init_63)))))))
theorem dX10_init_76 : decode cX10_init 76 = .ok (.aload_n 0, 1) := of_decide_eq_true (hb_l (hb_r (hb_r (hb_r (hb_r (hb_r (hb_r (kdX10_init_63))))))))
theorem dX10_init_77 : decode cX10_init 77 = .ok (.sipush 240, 3) := of_decide_eq_true (hb_l (hb_r (hb_r (hb_r (hb_r (hb_r (hb_r (hb_r (kdX10_init_63)))))))))
theorem dX10_init_80 : decode cX10_init 80 = .ok (.newarray .int, 2) := of_decide_eq_true (hb_l (hb_r (hb_r (hb_r (hb_r (hb_r (hb_r (hb_r (hb_r (kdX10_init_63))))))))))
theorem dX10_init_82 : decode cX10_init 82 = .ok (.putfield 37, 3) := of_decide_eq_true (hb_l (hb_r (hb_r (hb_r (hb_r (hb_r (hb_r (hb_r (hb_r (hb_r (kdX10_init_63)))))))))))
theorem dX10_init_85 : decode cX10_init 85 = .ok (.aload_n 0, 1) := of_decide_eq_true (hb_l (hb_r (hb_r (hb_r (hb_r (hb_r (hb_r (hb_r (hb_r (hb_r (hb_r (kdX10_init_63))))))))))))
theorem dX10_init_86 : decode cX10_init 86 = .ok (.bipush 24, 2) := of_decide_eq_true (hb_l (hb_r (hb_r (hb_r (hb_r (hb_r (hb_r (hb_r (hb_r (hb_r (hb_r (hb_r (kdX10_init_63)))))))))))))
theorem dX10_init_88 : decode cX10_init 88 = .ok (.newarray .int, 2) := of_decide_eq_true (hb_l (hb_r (hb_r (hb_r (hb_r (hb_r (hb_r (hb_r (hb_r (hb_r (hb_r (hb_r (hb_r (kdX10_init_63))))))))))))))
theorem dX10_init_90 : decode cX10_init 90 = .ok (.putfield 40, 3) := of_decide_eq_true (hb_l (hb_r (hb_r (hb_r (hb_r (hb_r (hb_r (hb_r (hb_r (hb_r (hb_r (hb_r (hb_r (hb_r (kdX10_init_63)))))))))))))))
theorem dX10_init_93 : decode cX10_init 93 = .ok (.aload_n 0, 1) := of_decide_eq_true (hb_l (hb_r (hb_r (hb_r (hb_r (hb_r (hb_r (hb_r (hb_r (hb_r (hb_r (hb_r (hb_r (hb_r (hb_r (kdX10_init_63))))))))))))))))
theorem dX10_init_94 : decode cX10_init 94 = .ok (.bipush 10, 2) := of_decide_eq_true (hb_l (hb_r (hb_r (hb_r (hb_r (hb_r (hb_r (hb_r (hb_r (hb_r (hb_r (hb_r (hb_r (hb_r (hb_r (hb_r (kdX10_init_63)))))))))))))))))
theorem dX10_init_96 : decode cX10_init 96 = .ok (.newarray .boolean, 2) := of_decide_eq_true (hb_l (hb_r (hb_r (hb_r (hb_r (hb_r (hb_r (hb_r (hb_r (hb_r (hb_r (hb_r (hb_r (hb_r (hb_r (hb_r (hb_r (kdX10_init_63))))))))))))))))))
theorem dX10_init_98 : decode cX10_init 98 = .ok (.putfield 43, 3) := of_decide_eq_true (hb_l (hb_r (hb_r (hb_r (hb_r (hb_r (hb_r (hb_r (hb_r (hb_r (hb_r (hb_r (hb_r (hb_r (hb_r (hb_r (hb_r (hb_r (kdX10_init_63)))))))))))))))))))
theorem dX10_init_101 : decode cX10_init 101 = .ok (.aload_n 0, 1) := of_decide_eq_true (hb_l (hb_r (hb_r (hb_r (hb_r (hb_r (hb_r (hb_r (hb_r (hb_r (hb_r (hb_r (hb_r (hb_r (hb_r (hb_r (hb_r (hb_r (hb_r (kdX10_init_63))))))))))))))))))))
theorem dX10_init_102 : decode cX10_init 102 = .ok (.sipush 4096, 3) := of_decide_eq_true (hb_l (hb_r (hb_r (hb_r (hb_r (hb_r (hb_r (hb_r (hb_r (hb_r (hb_r (hb_r (hb_r (hb_r (hb_r (hb_r (hb_r (hb_r (hb_r (hb_r (kdX10_init_63)))))))))))))))))))))
theorem dX10_init_105 : decode cX10_init 105 = .ok (.newarray .boolean, 2) := of_decide_eq_true (hb_l (hb_r (hb_r (hb_r (hb_r (hb_r (hb_r (hb_r (hb_r (hb_r (hb_r (hb_r (hb_r (hb_r (hb_r (hb_r (hb_r (hb_r (hb_r (hb_r (hb_r (kdX10_init_63))))))))))))))))))))))
theorem dX10_init_107 : decode cX10_init 107 = .ok (.putfield 47, 3) := of_decide_eq_true (hb_l (hb_r (hb_r (hb_r (hb_r (hb_r (hb_r (hb_r (hb_r (hb_r (hb_r (hb_r (hb_r (hb_r (hb_r (hb_r (hb_r (hb_r (hb_r (hb_r (hb_r (hb_r (kdX10_init_63)))))))))))))))))))))))
theorem dX10_init_110 : decode cX10_init 110 = .ok (.aload_n 0, 1) := of_decide_eq_true (hb_l (hb_r (hb_r (hb_r (hb_r (hb_r (hb_r (hb_r (hb_r (hb_r (hb_r (hb_r (hb_r (hb_r (hb_r (hb_r (hb_r (hb_r (hb_r (hb_r (hb_r (hb_r (hb_r (kdX10_init_63))))))))))))))))))))))))
theorem dX10_init_111 : decode cX10_init 111 = .ok (.bipush 12, 2) := of_decide_eq_true (hb_l (hb_r (hb_r (hb_r (hb_r (hb_r (hb_r (hb_r (hb_r (hb_r (hb_r (hb_r (hb_r (hb_r (hb_r (hb_r (hb_r (hb_r (hb_r (hb_r (hb_r (hb_r (hb_r (hb_r (kdX10_init_63)))))))))))))))))))))))))
theorem dX10_init_113 : decode cX10_init 113 = .ok (.newarray .int, 2) := of_decide_eq_true (hb_l (hb_r (hb_r (hb_r (hb_r (hb_r (hb_r (hb_r (hb_r (hb_r (hb_r (hb_r (hb_r (hb_r (hb_r (hb_r (hb_r (hb_r (hb_r (hb_r (hb_r (hb_r (hb_r (hb_r (hb_r (kdX10_init_63))))))))))))))))))))))))))
theorem dX10_init_115 : decode cX10_init 115 = .ok (.putfield 50, 3) := of_decide_eq_true (hb_l (hb_r (hb_r (hb_r (hb_r (hb_r (hb_r (hb_r (hb_r (hb_r (hb_r (hb_r (hb_r (hb_r (hb_r (hb_r (hb_r (hb_r (hb_r (hb_r (hb_r (hb_r (hb_r (hb_r (hb_r (hb_r (kdX10_init_63)))))))))))))))))))))))))))
theorem dX10_init_118 : decode cX10_init 118 = .ok (.aload_n 0, 1) := of_decide_eq_true (hb_l (hb_r (hb_r (hb_r (hb_r (hb_r (hb_r (hb_r (hb_r (hb_r (hb_r (hb_r (hb_r (hb_r (hb_r (hb_r (hb_r (hb_r (hb_r (hb_r (hb_r (hb_r (hb_r (hb_r (hb_r (hb_r (hb_r (kdX10_init_63))))))))))))))))))))))))))))
theorem dX10_init_119 : decode cX10_init 119 = .ok (.bipush 8, 2) := of_decide_eq_true (hb_l (hb_r (hb_r (hb_r (hb_r (hb_r (hb_r (hb_r (hb_r (hb_r (hb_r (hb_r (hb_r (hb_r (hb_r (hb_r (hb_r (hb_r (hb_r (hb_r (hb_r (hb_r (hb_r (hb_r (hb_r (hb_r (hb_r (hb_r (kdX10_init_63)))))))))))))))))))))))))))))
theorem dX10_init_121 : decode cX10_init 121 = .ok (.newarray .int, 2) := of_decide_eq_true (hb_l (hb_r (hb_r (hb_r (hb_r (hb_r (hb_r (hb_r (hb_r (hb_r (hb_r (hb_r (hb_r (hb_r (hb_r (hb_r (hb_r (hb_r (hb_r (hb_r (hb_r (hb_r (hb_r (hb_r (hb_r (hb_r (hb_r (hb_r (hb_r (kdX10_init_63))))))))))))))))))))))))))))))
theorem dX10_init_123 : decode cX10_init 123 = .ok (.dup, 1) := of_decide_eq_true (hb_l (hb_r (hb_r (hb_r (hb_r (hb_r (hb_r (hb_r (hb_r (hb_r (hb_r (hb_r (hb_r (hb_r (hb_r (hb_r (hb_r (hb_r (hb_r (hb_r (hb_r (hb_r (hb_r (hb_r (hb_r (hb_r (hb_r (hb_r (hb_r (hb_r (kdX10_init_63)))))))))))))))))))))))))))))))
theorem dX10_init_124 : decode cX10_init 124 = .ok (.iconst 0, 1) := of_decide_eq_true (hb_l (hb_r (hb_r (hb_r (hb_r (hb_r (hb_r (hb_r (hb_r (hb_r (hb_r (hb_r (hb_r (hb_r (hb_r (hb_r (hb_r (hb_r (hb_r (hb_r (hb_r (hb_r (hb_r (hb_r (hb_r (hb_r (hb_r (hb_r (hb_r (hb_r (hb_r (kdX10_init_63))))))))))))))))))))))))))))))))
theorem dX10_init_125 : decode cX10_init 125 = .ok (.bipush 10, 2) := of_decide_eq_true (hb_r (hb_r (hb_r (hb_r (hb_r (hb_r (hb_r (hb_r (hb_r (hb_r (hb_r (hb_r (hb_r (hb_r (hb_r (hb_r (hb_r (hb_r (hb_r (hb_r (hb_r (hb_r (hb_r (hb_r (hb_r (hb_r (hb_r (hb_r (hb_r (hb_r (hb_r (kdX10_init_63))))))))))))))))))))))))))))))))
theorem kdX10_init_127 : (decide (decode cX10_init 127 = .ok (.iastore, 1)) && (decide (decode cX10_init 128 = .ok (.dup, 1)) && (decide (decode cX10_init 129 = .ok (.iconst 1, 1)) && (decide (decode cX10_init 130 = .ok (.bipush 10, 2)) && (decide (decode cX10_init 132 = .ok (.iastore, 1)) && (decide (decode cX10_init 133 = .ok (.dup, 1)) && (decide (decode cX10_init 134 = .ok (.iconst 2, 1)) && (decide (decode cX10_init 135 = .ok (.bipush 10, 2)) && (decide (decode cX10_init 137 = .ok (.iastore, 1)) && (decide (decode cX10_init 138 = .ok (.dup, 1)) && (decide (decode cX10_init 139 = .ok (.iconst 3, 1)) && (decide (decode cX10_init 140 = .ok (.bipush 10, 2)) && (decide (decode cX10_init 142 = .ok (.iastore, 1)) && (decide (decode cX10_init 143 = .ok (.dup, 1)) && (decide (decode cX10_init 144 = .ok (.iconst 4, 1)) && (decide (decode cX10_init 145 = .ok (.bipush 10, 2)) && (decide (decode cX10_init 147 = .ok (.iastore, 1)) && (decide (decode cX10_init 148 = .ok (.dup, 1)) && (decide (decode cX10_init 149 = .ok (.iconst 5, 1)) && (decide (decode cX10_init 150 = .ok (.bipush 10, 2)) && (decide (decode cX10_init 152 = .ok (.iastore, 1)) && (decide (decode cX10_init 153 = .ok (.dup, 1)) && (decide (decode cX10_init 154 = .ok (.bipush 6, 2)) && (decide (decode cX10_init 156 = .ok (.bipush 10, 2)) && (decide (decode cX10_init 158 = .ok (.iastore, 1)) && (decide (decode cX10_init 159 = .ok (.dup, 1)) && (decide (decode cX10_init 160 = .ok (.bipush 7, 2)) && (decide (decode cX10_init 162 = .ok (.bipush 10, 2)) && (decide (decode cX10_init 164 = .ok (.iastore, 1)) && (decide (decode cX10_init 165 = .ok (.putfield 53, 3)) && (decide (decode cX10_init 168 = .ok (.aload_n 0, 1)) && (decide (decode cX10_init 169 = .ok (.bipush 8, 2)))))))))))))))))))))))))))))))))) = true := by decide +kernel
theorem dX10_init_127 : decode cX10_init 127 = .ok (.iastore, 1) := of_decide_eq_true (hb_l (kdX10_init_127))
theorem dX10_init_128 : decode cX10_init 128 = .ok (.dup, 1) := of_decide_eq_true (hb_l (hb_r (kdX10_init_127)))
theorem dX10_init_129 : decode cX10_init 129 = .ok (.iconst 1, 1) := of_decide_eq_true (hb_l (hb_r (hb_r (kdX10_init_127))))
theorem dX10_init_130 : decode cX10_init 130 = .ok (.bipush 10, 2) := of_decide_eq_true (hb_l (hb_r (hb_r (hb_r (kdX10_init_127)))))
theorem dX10_init_132 : decode cX10_init 132 = .ok (.iastore, 1) := of_decide_eq_true (hb_l (hb_r (hb_r (hb_r (hb_r (kdX10_init_127))))))
theorem dX10_init_133 : decode cX10_init 133 = .ok (.dup, 1) := of_decide_eq_true (hb_l (hb_r (hb_r (hb_r (hb_r (hb_r (kdX10_init_127)))))))
theorem dX10_init_134 : decode cX10_init 134 = .ok (.iconst 2, 1) := of_decide_eq_true (hb_l (hb_r (hb_r (hb_r (hb_r (hb_r (hb_r (kdX10_init_127))))))))
theorem dX10_init_135 : decode cX10_init 135 = .ok (.bipush 10, 2) := of_decide_eq_true (hb_l (hb_r (hb_r (hb_r (hb_r (hb_r (hb_r (hb_r (kdX10_init_127)))))))))
theorem dX10_init_137 : decode cX10_init 137 = .ok (.iastore, 1) := of_decide_eq_true (hb_l (hb_r (hb_r (hb_r (hb_r (hb_r (hb_r (hb_r (hb_r (kdX10_init_127))))))))))
theorem dX10_init_138 : decode cX10_init 138 = .ok (.dup, 1) := of_decide_eq_true (hb_l (hb_r (hb_r (hb_r (hb_r (hb_r (hb_r (hb_r (hb_r (hb_r (kdX10_init_127)))))))))))
theorem dX10_init_139 : decode cX10_init 139 = .ok (.iconst 3, 1) := of_decide_eq_true (hb_l (hb_r (hb_r (hb_r (hb_r (hb_r (hb_r (hb_r (hb_r (hb_r (hb_r (kdX10_init_127))))))))))))
theorem dX10_init_140 : decode cX10_init 140 = .ok (.bipush 10, 2) := of_decide_eq_true (hb_l (hb_r (hb_r (hb_r (hb_r (hb_r (hb_r (hb_r (hb_r (hb_r (hb_r (hb_r (kdX10_init_127)))))))))))))
theorem dX10_init_142 : decode cX10_init 142 = .ok (.iastore, 1) := of_decide_eq_true (hb_l (hb_r (hb_r (hb_r (hb_r (hb_r (hb_r (hb_r (hb_r (hb_r (hb_r (hb_r (hb_r (kdX10_init_127))))))))))))))
theorem dX10_init_143 : decode cX10_init 143 = .ok (.dup, 1) := of_decide_eq_true (hb_l (hb_r (hb_r (hb_r (hb_r (hb_r (hb_r (hb_r (hb_r (hb_r (hb_r (hb_r (hb_r (hb_r (kdX10_init_127)))))))))))))))
theorem dX10_init_144 : decode cX10_init 144 = .ok (.iconst 4, 1) := of_decide_eq_true (hb_l (hb_r (hb_r (hb_r (hb_r (hb_r (hb_r (hb_r (hb_r (hb_r (hb_r (hb_r (hb_r (hb_r (hb_r (kdX10_init_127))))))))))))))))
theorem dX10_init_145 : decode cX10_init 145 = .ok (.bipush 10, 2) := of_decide_eq_true (hb_l (hb_r (hb_r (hb_r (hb_r (hb_r (hb_r (hb_r (hb_r (hb_r (hb_r (hb_r (hb_r (hb_r (hb_r (hb_r (kdX10_init_127)))))))))))))))))
theorem dX10_init_147 : decode cX10_init 147 = .ok (.iastore, 1) := of_decide_eq_true (hb_l (hb_r (hb_r (hb_r (hb_r (hb_r (hb_r (hb_r (hb_r (hb_r (hb_r (hb_r (hb_r (hb_r (hb_r (hb_r (hb_r (kdX10_init_127))))))))))))))))))
theorem dX10_init_148 : decode cX10_init 148 = .ok (.dup, 1) := of_decide_eq_true (hb_l (hb_r (hb_r (hb_r (hb_r (hb_r (hb_r (hb_r (hb_r (hb_r (hb_r (hb_r (hb_r (hb_r (hb_r (hb_r (hb_r (hb_r (kdX10_init_127)))))))))))))))))))
theorem dX10_init_149 : decode cX10_init 149 = .ok (.iconst 5, 1) := of_decide_eq_true (hb_l (hb_r (hb_r (hb_r (hb_r (hb_r (hb_r (hb_r (hb_r (hb_r (hb_r (hb_r (hb_r (hb_r (hb_r (hb_r (hb_r (hb_r (hb_r (kdX10_init_127))))))))))))))))))))
theorem dX10_init_150 : decode cX10_init 150 = .ok (.bipush 10, 2) := of_decide_eq_true (hb_l (hb_r (hb_r (hb_r (hb_r (hb_r (hb_r (hb_r (hb_r (hb_r (hb_r (hb_r (hb_r (hb_r (hb_r (hb_r (hb_r (hb_r (hb_r (hb_r (kdX10_init_127)))))))))))))))))))))
theorem dX10_init_152 : decode cX10_init 152 = .ok (.iastore, 1) := of_decide_eq_true (hb_l (hb_r (hb_r (hb_r (hb_r (hb_r (hb_r (hb_r (hb_r (hb_r (hb_r (hb_r (hb_r (hb_r (hb_r (hb_r (hb_r (hb_r (hb_r (hb_r (hb_r (kdX10_init_127))))))))))))))))))))))
theorem dX10_init_153 : decode cX10_init 153 = .ok (.dup, 1) := of_decide_eq_true (hb_l (hb_r (hb_r (hb_r (hb_r (hb_r (hb_r (hb_r (hb_r (hb_r (hb_r (hb_r (hb_r (hb_r (hb_r (hb_r (hb_r (hb_r (hb_r (hb_r (hb_r (hb_r (kdX10_init_127)))))))))))))))))))))))
theorem dX10_init_154 : decode cX10_init 154 = .ok (.bipush 6, 2) := of_decide_eq_true (hb_l (hb_r (hb_r (hb_r (hb_r (hb_r (hb_r (hb_r (hb_r (hb_r (hb_r (hb_r (hb_r (hb_r (hb_r (hb_r (hb_r (hb_r (hb_r (hb_r (hb_r (hb_r (hb_r (kdX10_init_127))))))))))))))))))))))))
theorem dX10_init_156 : decode cX10_init 156 = .ok (.bipush 10, 2) := of_decide_eq_true (hb_l (hb_r (hb_r (hb_r (hb_r (hb_r (hb_r (hb_r (hb_r (hb_r (hb_r (hb_r (hb_r (hb_r (hb_r (hb_r (hb_r (hb_r (hb_r (hb_r (hb_r (hb_r (hb_r (hb_r (kdX10_init_127)))))))))))))))))))))))))
theorem dX10_init_158 : decode cX10_init 158 = .ok (.iastore, 1) := of_decide_eq_true (hb_l (hb_r (hb_r (hb_r (hb_r (hb_r (hb_r (hb_r (hb_r (hb_r (hb_r (hb_r (hb_r (hb_r (hb_r (hb_r (hb_r (hb_r (hb_r (hb_r (hb_r (hb_r (hb_r (hb_r (hb_r (kdX10_init_127))))))))))))))))))))))))))
theorem dX10_init_159 : decode cX10_init 159 = .ok (.dup, 1) := of_decide_eq_true (hb_l (hb_r (hb_r (hb_r (hb_r (hb_r (hb_r (hb_r (hb_r (hb_r (hb_r (hb_r (hb_r (hb_r (hb_r (hb_r (hb_r (hb_r (hb_r (hb_r (hb_r (hb_r (hb_r (hb_r (hb_r (hb_r (kdX10_init_127)))))))))))))))))))))))))))
theorem dX10_init_160 : decode cX10_init 160 = .ok (.bipush 7, 2) := of_decide_eq_true (hb_l (hb_r (hb_r (hb_r (hb_r (hb_r (hb_r (hb_r (hb_r (hb_r (hb_r (hb_r (hb_r (hb_r (hb_r (hb_r (hb_r (hb_r (hb_r (hb_r (hb_r (hb_r (hb_r (hb_r (hb_r (hb_r (hb_r (kdX10_init_127))))))))))))))))))))))))))))
theorem dX10_init_162 : decode cX10_init 162 = .ok (.bipush 10, 2) := of_decide_eq_true (hb_l (hb_r (hb_r (hb_r (hb_r (hb_r (hb_r (hb_r (hb_r (hb_r (hb_r (hb_r (hb_r (hb_r (hb_r (hb_r (hb_r (hb_r (hb_r (hb_r (hb_r (hb_r (hb_r (hb_r (hb_r (hb_r (hb_r (hb_r (kdX10_init_127)))))))))))))))))))))))))))))
theorem dX10_init_164 : decode cX10_init 164 = .ok (.iastore, 1) := of_decide_eq_true (hb_l (hb_r (hb_r (hb_r (hb_r (hb_r (hb_r (hb_r (hb_r (hb_r (hb_r (hb_r (hb_r (hb_r (hb_r (hb_r (hb_r (hb_r (hb_r (hb_r (hb_r (hb_r (hb_r (hb_r (hb_r (hb_r (hb_r (hb_r (hb_r (kdX10_init_127))))))))))))))))))))))))))))))
theorem dX10_init_165 : decode cX10_init 165 = .ok (.putfield 53, 3) := of_decide_eq_true (hb_l (hb_r (hb_r (hb_r (hb_r (hb_r (hb_r (hb_r (hb_r (hb_r (hb_r (hb_r (hb_r (hb_r (hb_r (hb_r (hb_r (hb_r (hb_r (hb_r (hb_r (hb_r (hb_r (hb_r (hb_r (hb_r (hb_r (hb_r (hb_r (hb_r (kdX10_init_127)))))))))))))))))))))))))))))))
theorem dX10_init_168 : decode cX10_init 168 = .ok (.aload_n 0, 1) := of_decide_eq_true (hb_l (hb_r (hb_r (hb_r (hb_r (hb_r (hb_r (hb_r (hb_r (hb_r (hb_r (hb_r (hb_r (hb_r (hb_r (hb_r (hb_r (hb_r (hb_r (hb_r (hb_r (hb_r (hb_r (hb_r (hb_r (hb_r (hb_r (hb_r (hb_r (hb_r (hb_r (kdX10_init_127))))))))))))))))))))))))))))))))
theorem dX10_init_169 : decode cX10_init 169 = .ok (.bipush 8, 2) := of_decide_eq_true (hb_r (hb_r (hb_r (hb_r (hb_r (hb_r (hb_r (hb_r (hb_r (hb_r (hb_r (hb_r (hb_r (hb_r (hb_r (hb_r (hb_r (hb_r (hb_r (hb_r (hb_r (hb_r (hb_r (hb_r (hb_r (hb_r (hb_r (hb_r (hb_r (hb_r (hb_r (kdX10_init_127))))))))))))))))))))))))))))))))
theorem kdX10_init_171 : (decide (decode cX10_init 171 = .ok (.newarray .int, 2)) && (decide (decode cX10_init 173 = .ok (.putfield 56, 3)) && (decide (decode cX10_init 176 = .ok (.aload_n 0, 1)) && (decide (decode cX10_init 177 = .ok (.bipush 8, 2)) && (decide (decode cX10_init 179 = .ok (.newarray .int, 2)) && (decide (decode cX10_init 181 = .ok (.putfield 59, 3)) && (decide (decode cX10_init 184 = .ok (.aload_n 0, 1)) && (decide (decode cX10_init 185 = .ok (.sipush 400, 3)) && (decide (decode cX10_init 188 = .ok (.newarray .byte, 2)) && (decide (decode cX10_init 190 = .ok (.putfield 62, 3)) && (decide (decode cX10_init 193 = .ok (.aload_n 0, 1)) && (decide (decode cX10_init 194 = .ok (.iconst (-1), 1)) && (decide (decode cX10_init 195 = .ok (.putfield 66, 3)) && (decide (decode cX10_init 198 = .ok (.aload_n 0, 1)) && (decide (decode cX10_init 199 = .ok (.iconst 5, 1)) && (decide (decode cX10_init 200 = .ok (.newarray .int, 2)) && (decide (decode cX10_init 202 = .ok (.putfield 70, 3)) && (decide (decode cX10_init 205 = .ok (.aload_n 0, 1)) && (decide (decode cX10_init 206 = .ok (.iconst 5, 1)) && (decide (decode cX10_init 207 = .ok (.newarray .int, 2)) && (decide (decode cX10_init 209 = .ok (.putfield 73, 3)) && (decide (decode cX10_init 212 = .ok (.aload_n 0, 1)) && (decide (decode cX10_init 213 = .ok (.bipush 60, 2)) && (decide (decode cX10_init 215 = .ok (.newarray .int, 2)) && (decide (decode cX10_init 217 = .ok (.putfield 76, 3)) && (decide (decode cX10_init 220 = .ok (.aload_n 0, 1)) && (decide (decode cX10_init 221 = .ok (.bipush 60, 2)) && (decide (decode cX10_init 223 = .ok (.newarray .int, 2)) && (decide (decode cX10_init 225 = .ok (.putfield 79, 3)) && (decide (decode cX10_init 228 = .ok (.aload_n 0, 1)) && (decide (decode cX10_init 229 = .ok (.bipush 60, 2)) && (decide (decode cX10_init 231 = .ok (.newarray .int, 2)))))))))))))))))))))))))))))))))) = true := by decide +kernel
theorem dX10_init_171 : decode cX10_init 171 = .ok (.newarray .int, 2) := of_decide_eq_true (hb_l (kdX10_init_171))
theorem dX10_init_173 : decode cX10_init 173 = .ok (.putfield 56, 3) := of_decide_eq_true (hb_l (hb_r (kdX10_init_171)))
theorem dX10_init_176 : decode cX10_init 176 = .ok (.aload_n 0, 1) := of_decide_eq_true (hb_l (hb_r (hb_r (kdX10_init_171))))
theorem dX10_init_177 : decode cX10_init 177 = .ok (.bipush 8, 2) := of_decide_eq_true (hb_l (hb_r (hb_r (hb_r (kdX10_init_171)))))
theorem dX10_init_179 : decode cX10_init 179 = .ok (.newarray .int, 2) := of_decide_eq_true (hb_l (hb_r (hb_r (hb_r (hb_r (kdX10_init_171))))))
theorem dX10_init_181 : decode cX10_init 181 = .ok (.putfield 59, 3) := of_decide_eq_true (hb_l (hb_r (hb_r (hb_r (hb_r (hb_r (kdX10_init_171)))))))
theorem dX10_init_184 : decode cX10_init 184 = .ok (.aload_n 0, 1) := of_decide_eq_true (hb_l (hb_r (hb_r (hb_r (hb_r (hb_r (hb_r (kdX10_init_171))))))))
theorem dX10_init_185 : decode cX10_init 185 = .ok (.sipush 400, 3) := of_decide_eq_true (hb_l (hb_r (hb_r (hb_r (hb_r (hb_r (hb_r (hb_r (kdX10_init_171)))))))))
theorem dX10_init_188 : decode cX10_init 188 = .ok (.newarray .byte, 2) := of_decide_eq_true (hb_l (hb_r (hb_r (hb_r (hb_r (hb_r (hb_r (hb_r (hb_r (kdX10_init_171))))))))))
theorem dX10_init_190 : decode cX10_init 190 = .ok (.putfield 62, 3) := of_decide_eq_true (hb_l (hb_r (hb_r (hb_r (hb_r (hb_r (hb_r (hb_r (hb_r (hb_r (kdX10_init_171)))))))))))
theorem dX10_init_193 : decode cX10_init 193 = .ok (.aload_n 0, 1) := of_decide_eq_true (hb_l (hb_r (hb_r (hb_r (hb_r (hb_r (hb_r (hb_r (hb_r (hb_r (hb_r (kdX10_init_171))))))))))))
theorem dX10_init_194 : decode cX10_init 194 = .ok (.iconst (-1), 1) := of_decide_eq_true (hb_l (hb_r (hb_r (hb_r (hb_r (hb_r (hb_r (hb_r (hb_r (hb_r (hb_r (hb_r (kdX10_init_171)))))))))))))
theorem dX10_init_195 : decode cX10_init 195 = .ok (.putfield 66, 3) := of_decide_eq_true (hb_l (hb_r (hb_r (hb_r (hb_r (hb_r (hb_r (hb_r (hb_r (hb_r (hb_r (hb_r (hb_r (kdX10_init_171))))))))))))))
theorem dX10_init_198 : decode cX10_init 198 = .ok (.aload_n 0, 1) := of_decide_eq_true (hb_l (hb_r (hb_r (hb_r (hb_r (hb_r (hb_r (hb_r (hb_r (hb_r (hb_r (hb_r (hb_r (hb_r (kdX10_init_171)))))))))))))))
theorem dX10_init_199 : decode cX10_init 199 = .ok (.iconst 5, 1) := of_decide_eq_true (hb_l (hb_r (hb_r (hb_r (hb_r (hb_r (hb_r (hb_r (hb_r (hb_r (hb_r (hb_r (hb_r (hb_r (hb_r (kdX10_init_171))))))))))))))))
theorem dX10_init_200 : decode cX10_init 200 = .ok (.newarray .int, 2) := of_decide_eq_true (hb_l (hb_r (hb_r (hb_r (hb_r (hb_r (hb_r (hb_r (hb_r (hb_r (hb_r (hb_r (hb_r (hb_r (hb_r (hb_r (kdX10_init_171)))))))))))))))))
theorem dX10_init_202 : decode cX10_init 202 = .ok (.putfield 70, 3) := of_decide_eq_true (hb_l (hb_r (hb_r (hb_r (hb_r (hb_r (hb_r (hb_r (hb_r (hb_r (hb_r (hb_r (hb_r (hb_r (hb_r (hb_r (hb_r (kdX10_init_171))))))))))))))))))
theorem dX10_init_205 : decode cX10_init 205 = .ok (.aload_n 0, 1) := of_decide_eq_true (hb_l (hb_r (hb_r (hb_r (hb_r (hb_r (hb_r (hb_r (hb_r (hb_r (hb_r (hb_r (hb_r (hb_r (hb_r (hb_r (hb_r (hb_r (kdX10_init_171)))))))))))))))))))
theorem dX10_init_206 : decode cX10_init 206 = .ok (.iconst 5, 1) := of_decide_eq_true (hb_l (hb_r (hb_r (hb_r (hb_r (hb_r (hb_r (hb_r (hb_r (hb_r (hb_r (hb_r (hb_r (hb_r (hb_r (hb_r (hb_r (hb_r (hb_r (kdX10_init_171))))))))))))))))))))
theorem dX10_init_207 : decode cX10_init 207 = .ok (.newarray .int, 2) := of_decide_eq_true (hb_l (hb_r (hb_r (hb_r (hb_r (hb_r (hb_r (hb_r (hb_r (hb_r (hb_r (hb_r (hb_r (hb_r (hb_r (hb_r (hb_r (hb_r (hb_r (hb_r (kdX10_init_171)))))))))))))))))))))
theorem dX10_init_209 : decode cX10_init 209 = .ok (.putfield 73, 3) := of_decide_eq_true (hb_l (hb_r (hb_r (hb_r (hb_r (hb_r (hb_r (hb_r (hb_r (hb_r (hb_r (hb_r (hb_r (hb_r (hb_r (hb_r (hb_r (hb_r (hb_r (hb_r (hb_r (kdX10_init_171))))))))))))))))))))))
theorem dX10_init_212 : decode cX10_init 212 = .ok (.aload_n 0, 1) := of_decide_eq_true (hb_l (hb_r (hb_r (hb_r (hb_r (hb_r (hb_r (hb_r (hb_r (hb_r (hb_r (hb_r (hb_r (hb_r (hb_r (hb_r (hb_r (hb_r (hb_r (hb_r (hb_r (hb_r (kdX10_init_171)))))))))))))))))))))))
theorem dX10_init_213 : decode cX10_init 213 = .ok (.bipush 60, 2) := of_decide_eq_true (hb_l (hb_r (hb_r (hb_r (hb_r (hb_r (hb_r (hb_r (hb_r (hb_r (hb_r (hb_r (hb_r (hb_r (hb_r (hb_r (hb_r (hb_r (hb_r (hb_r (hb_r (hb_r (hb_r (kdX10_init_171))))))))))))))))))))))))
theorem dX10_init_215 : decode cX10_init 215 = .ok (.newarray .int, 2) := of_decide_eq_true (hb_l (hb_r (hb_r (hb_r (hb_r (hb_r (hb_r (hb_r (hb_r (hb_r (hb_r (hb_r (hb_r (hb_r (hb_r (hb_r (hb_r (hb_r (hb_r (hb_r (hb_r (hb_r (hb_r (hb_r (kdX10_init_171)))))))))))))))))))))))))
theorem dX10_init_217 : decode cX10_init 217 = .ok (.putfield 76, 3) := of_decide_eq_true (hb_l (hb_r (hb_r (hb_r (hb_r (hb_r (hb_r (hb_r (hb_r (hb_r (hb_r (hb_r (hb_r (hb_r (hb_r (hb_r (hb_r (hb_r (hb_r (hb_r (hb_r (hb_r (hb_r (hb_r (hb_r (kdX10_init_171))))))))))))))))))))))))))
theorem dX10_init_220 : decode cX10_init 220 = .ok (.aload_n 0, 1) := of_decide_eq_true (hb_l (hb_r (hb_r (hb_r (hb_r (hb_r (hb_r (hb_r (hb_r (hb_r (hb_r (hb_r (hb_r (hb_r (hb_r (hb_r (hb_r (hb_r (hb_r (hb_r (hb_r (hb_r (hb_r (hb_r (hb_r (hb_r (kdX10_init_171)))))))))))))))))))))))))))
theorem dX10_init_221 : decode cX10_init 221 = .ok (.bipush 60, 2) := of_decide_eq_true (hb_l (hb_r (hb_r (hb_r (hb_r (hb_r (hb_r (hb_r (hb_r (hb_r (hb_r (hb_r (hb_r (hb_r (hb_r (hb_r (hb_r (hb_r (hb_r (hb_r (hb_r (hb_r (hb_r (hb_r (hb_r (hb_r (hb_r (kdX10_init_171))))))))))))))))))))))))))))
theorem dX10_init_223 : decode cX10_init 223 = .ok (.newarray .int, 2) := of_decide_eq_true (hb_l (hb_r (hb_r (hb_r (hb_r (hb_r (hb_r (hb_r (hb_r (hb_r (hb_r (hb_r (hb_r (hb_r (hb_r (hb_r (hb_r (hb_r (hb_r (hb_r (hb_r (hb_r (hb_r (hb_r (hb_r (hb_r (hb_r (hb_r (kdX10_init_171)))))))))))))))))))))))))))))
theorem dX10_init_225 : decode cX10_init 225 = .ok (.putfield 79, 3) := of_decide_eq_true (hb_l (hb_r (hb_r (hb_r (hb_r (hb_r (hb_r (hb_r (hb_r (hb_r (hb_r (hb_r (hb_r (hb_r (hb_r (hb_r (hb_r (hb_r (hb_r (hb_r (hb_r (hb_r (hb_r (hb_r (hb_r (hb_r (hb_r (hb_r (hb_r (kdX10_init_171))))))))))))))))))))))))))))))
theorem dX10_init_228 : decode cX10_init 228 = .ok (.aload_n 0, 1) := of_decide_eq_true (hb_l (hb_r (hb_r (hb_r (hb_r (hb_r (hb_r (hb_r (hb_r (hb_r (hb_r (hb_r (hb_r (hb_r (hb_r (hb_r (hb_r (hb_r (hb_r (hb_r (hb_r (hb_r (hb_r (hb_r (hb_r (hb_r (hb_r (hb_r (hb_r (hb_r (kdX10_init_171)))))))))))))))))))))))))))))))
theorem dX10_init_229 : decode cX10_init 229 = .ok (.bipush 60, 2) := of_decide_eq_true (hb_l (hb_r (hb_r (hb_r (hb_r (hb_r (hb_r (hb_r (hb_r (hb_r (hb_r (hb_r (hb_r (hb_r (hb_r (hb_r (hb_r (hb_r (hb_r (hb_r (hb_r (hb_r (hb_r (hb_r (hb_r (hb_r (hb_r (hb_r (hb_r (hb_r (hb_r (kdX10_init_171))))))))))))))))))))))))))))))))
theorem dX10_init_231 : decode cX10_init 231 = .ok (.newarray .int, 2) := of_decide_eq_true (hb_r (hb_r (hb_r (hb_r (hb_r (hb_r (hb_r (hb_r (hb_r (hb_r (hb_r (hb_r (hb_r (hb_r (hb_r (hb_r (hb_r (hb_r (hb_r (hb_r (hb_r (hb_r (hb_r (hb_r (hb_r (hb_r (hb_r (hb_r (hb_r (hb_r (hb_r (kdX10_init_171))))))))))))))))))))))))))))))))
theorem kdX10_init_233 : (decide (decode cX10_init 233 = .ok (.putfield 82, 3)) && (decide (decode cX10_init 236 = .ok (.aload_n 0, 1)) && (decide (decode cX10_init 237 = .ok (.bipush 60, 2)) && (decide (decode cX10_init 239 = .ok (.newarray .int, 2)) && (decide (decode cX10_init 241 = .ok (.putfield 85, 3)) && (decide (decode cX10_init 244 = .ok (.aload_n 0, 1)) && (decide (decode cX10_init 245 = .ok (.bipush 60, 2)) && (decide (decode cX10_init 247 = .ok (.newarray .int, 2)) && (decide (decode cX10_init 249 = .ok (.putfield 88, 3)) && (decide (decode cX10_init 252 = .ok (.aload_n 0, 1)) && (decide (decode cX10_init 253 = .ok (.bipush 60, 2)) && (decide (decode cX10_init 255 = .ok (.newarray .int, 2)) && (decide (decode cX10_init 257 = .ok (.putfield 91, 3)) && (decide (decode cX10_init 260 = .ok (.aload_n 0, 1)) && (decide (decode cX10_init 261 = .ok (.bipush 60, 2)) && (decide (decode cX10_init 263 = .ok (.newarray .int, 2)) && (decide (decode cX10_init 265 = .ok (.putfield 94, 3)) && (decide (decode cX10_init 268 = .ok (.aload_n 0, 1)) && (decide (decode cX10_init 269 = .ok (.bipush 60, 2)) && (decide (decode cX10_init 271 = .ok (.newarray .int, 2)) && (decide (decode cX10_init 273 = .ok (.putfield 97, 3)) && (decide (decode cX10_init 276 = .ok (.aload_n 0, 1)) && (decide (decode cX10_init 277 = .ok (.sipush 169, 3)) && (decide (decode cX10_init 280 = .ok (.newarray .int, 2)) && (decide (decode cX10_init 282 = .ok (.putfield 100, 3)) && (decide (decode cX10_init 285 = .ok (.aload_n 0, 1)) && (decide (decode cX10_init 286 = .ok (.sipush 169, 3)) && (decide (decode cX10_init 289 = .ok (.newarray .int, 2)) && (decide (decode cX10_init 291 = .ok (.putfield 103, 3)) && (decide (decode cX10_init 294 = .ok (.aload_n 0, 1)) && (decide (decode cX10_init 295 = .ok (.sipush 169, 3)) && (decide (decode cX10_init 298 = .ok (.newarray .int, 2)))))))))))))))))))))))))))))))))) = true := by decide +kernel
theorem dX10_init_233 : decode cX10_init 233 = .ok (.putfield 82, 3) := of_decide_eq_true (hb_l (kdX10_init_233))
theorem dX10_init_236 : decode cX10_init 236 = .ok (.aload_n 0, 1) := of_decide_eq_true (hb_l (hb_r (kdX10_init_233)))
theorem dX10_init_237 : decode cX10_init 237 = .ok (.bipush 60, 2) := of_decide_eq_true (hb_l (hb_r (hb_r (kdX10_init_233))))
theorem dX10_init_239 : decode cX10_init 239 = .ok (.newarray .int, 2) := of_decide_eq_true (hb_l (hb_r (hb_r (hb_r (kdX10_init_233)))))
theorem dX10_init_241 : decode cX10_init 241 = .ok (.putfield 85, 3) := of_decide_eq_true (hb_l (hb_r (hb_r (hb_r (hb_r (kdX10_init_233))))))
theorem dX10_init_244 : decode cX10_init 244 = .ok (.aload_n 0, 1) := of_decide_eq_true (hb_l (hb_r (hb_r (hb_r (hb_r (hb_r (kdX10_init_233)))))))
theorem dX10_init_245 : decode cX10_init 245 = .ok (.bipush 60, 2) := of_decide_eq_true (hb_l (hb_r (hb_r (hb_r (hb_r (hb_r (hb_r (kdX10_init_233))))))))
theorem dX10_init_247 : decode cX10_init 247 = .ok (.newarray .int, 2) := of_decide_eq_true (hb_l (hb_r (hb_r (hb_r (hb_r (hb_r (hb_r (hb_r (kdX10_init_233)))))))))
theorem dX10_init_249 : decode cX10_init 249 = .ok (.putfield 88, 3) := of_decide_eq_true (hb_l (hb_r (hb_r (hb_r (hb_r (hb_r (hb_r (hb_r (hb_r (kdX10_init_233))))))))))
theorem dX10_init_252 : decode cX10_init 252 = .ok (.aload_n 0, 1) := of_decide_eq_true (hb_l (hb_r (hb_r (hb_r (hb_r (hb_r (hb_r (hb_r (hb_r (hb_r (kdX10_init_233)))))))))))
theorem dX10_init_253 : decode cX10_init 253 = .ok (.bipush 60, 2) := of_decide_eq_true (hb_l (hb_r (hb_r (hb_r (hb_r (hb_r (hb_r (hb_r (hb_r (hb_r (hb_r (kdX10_init_233))))))))))))
theorem dX10_init_255 : decode cX10_init 255 = .ok (.newarray .int, 2) := of_decide_eq_true (hb_l (hb_r (hb_r (hb_r (hb_r (hb_r (hb_r (hb_r (hb_r (hb_r (hb_r (hb_r (kdX10_init_233)))))))))))))
theorem dX10_init_257 : decode cX10_init 257 = .ok (.putfield 91, 3) := of_decide_eq_true (hb_l (hb_r (hb_r (hb_r (hb_r (hb_r (hb_r (hb_r (hb_r (hb_r (hb_r (hb_r (hb_r (kdX10_init_233))))))))))))))
theorem dX10_init_260 : decode cX10_init 260 = .ok (.aload_n 0, 1) := of_decide_eq_true (hb_l (hb_r (hb_r (hb_r (hb_r (hb_r (hb_r (hb_r (hb_r (hb_r (hb_r (hb_r (hb_r (hb_r (kdX10_init_233)))))))))))))))
theorem dX10_init_261 : decode cX10_init 261 = .ok (.bipush 60, 2) := of_decide_eq_true (hb_l (hb_r (hb_r (hb_r (hb_r (hb_r (hb_r (hb_r (hb_r (hb_r (hb_r (hb_r (hb_r (hb_r (hb_r (kdX10_init_233))))))))))))))))
theorem dX10_init_263 : decode cX10_init 263 = .ok (.newarray .int, 2) := of_decide_eq_true (hb_l (hb_r (hb_r (hb_r (hb_r (hb_r (hb_r (hb_r (hb_r (hb_r (hb_r (hb_r (hb_r (hb_r (hb_r (hb_r (kdX10_init_233)))))))))))))))))
theorem dX10_init_265 : decode cX10_init 265 = .ok (.putfield 94, 3) := of_decide_eq_true (hb_l (hb_r (hb_r (hb_r (hb_r (hb_r (hb_r (hb_r (hb_r (hb_r (hb_r (hb_r (hb_r (hb_r (hb_r (hb_r (hb_r (kdX10_init_233))))))))))))))))))
theorem dX10_init_268 : decode cX10_init 268 = .ok (.aload_n 0, 1) := of_decide_eq_true (hb_l (hb_r (hb_r (hb_r (hb_r (hb_r (hb_r (hb_r (hb_r (hb_r (hb_r (hb_r (hb_r (hb_r (hb_r (hb_r (hb_r (hb_r (kdX10_init_233)))))))))))))))))))
theorem dX10_init_269 : decode cX10_init 269 = .ok (.bipush 60, 2) := of_decide_eq_true (hb_l (hb_r (hb_r (hb_r (hb_r (hb_r (hb_r (hb_r (hb_r (hb_r (hb_r (hb_r (hb_r (hb_r (hb_r (hb_r (hb_r (hb_r (hb_r (kdX10_init_233))))))))))))))))))))
theorem dX10_init_271 : decode cX10_init 271 = .ok (.newarray .int, 2) := of_decide_eq_true (hb_l (hb_r (hb_r (hb_r (hb_r (hb_r (hb_r (hb_r (hb_r (hb_r (hb_r (hb_r (hb_r (hb_r (hb_r (hb_r (hb_r (hb_r (hb_r (hb_r (kdX10_init_233)))))))))))))))))))))
theorem dX10_init_273 : decode cX10_init 273 = .ok (.putfield 97, 3) := of_decide_eq_true (hb_l (hb_r (hb_r (hb_r (hb_r (hb_r (hb_r (hb_r (hb_r (hb_r (hb_r (hb_r (hb_r (hb_r (hb_r (hb_r (hb_r (hb_r (hb_r (hb_r (hb_r (kdX10_init_233))))))))))))))))))))))
theorem dX10_init_276 : decode cX10_init 276 = .ok (.aload_n 0, 1) := of_decide_eq_true (hb_l (hb_r (hb_r (hb_r (hb_r (hb_r (hb_r (hb_r (hb_r (hb_r (hb_r (hb_r (hb_r (hb_r (hb_r (hb_r (hb_r (hb_r (hb_r (hb_r (hb_r (hb_r (kdX10_init_233)))))))))))))))))))))))
theorem dX10_init_277 : decode cX10_init 277 = .ok (.sipush 169, 3) := of_decide_eq_true (hb_l (hb_r (hb_r (hb_r (hb_r (hb_r (hb_r (hb_r (hb_r (hb_r (hb_r (hb_r (hb_r (hb_r (hb_r (hb_r (hb_r (hb_r (hb_r (hb_r (hb_r (hb_r (hb_r (kdX10_init_233))))))))))))))))))))))))
theorem dX10_init_280 : decode cX10_init 280 = .ok (.newarray .int, 2) := of_decide_eq_true (hb_l (hb_r (hb_r (hb_r (hb_r (hb_r (hb_r (hb_r (hb_r (hb_r (hb_r (hb_r (hb_r (hb_r (hb_r (hb_r (hb_r (hb_r (hb_r (hb_r (hb_r (hb_r (hb_r (hb_r (kdX10_init_233)))))))))))))))))))))))))
theorem dX10_init_282 : decode cX10_init 282 = .ok (.putfield 100, 3) := of_decide_eq_true (hb_l (hb_r (hb_r (hb_r (hb_r (hb_r (hb_r (hb_r (hb_r (hb_r (hb_r (hb_r (hb_r (hb_r (hb_r (hb_r (hb_r (hb_r (hb_r (hb_r (hb_r (hb_r (hb_r (hb_r (hb_r (kdX10_init_233))))))))))))))))))))))))))
theorem dX10_init_285 : decode cX10_init 285 = .ok (.aload_n 0, 1) := of_decide_eq_true (hb_l (hb_r (hb_r (hb_r (hb_r (hb_r (hb_r (hb_r (hb_r (hb_r (hb_r (hb_r (hb_r (hb_r (hb_r (hb_r (hb_r (hb_r (hb_r (hb_r (hb_r (hb_r (hb_r (hb_r (hb_r (hb_r (kdX10_init_233)))))))))))))))))))))))))))
theorem dX10_init_286 : decode cX10_init 286 = .ok (.sipush 169, 3) := of_decide_eq_true (hb_l (hb_r (hb_r (hb_r (hb_r (hb_r (hb_r (hb_r (hb_r (hb_r (hb_r (hb_r (hb_r (hb_r (hb_r (hb_r (hb_r (hb_r (hb_r (hb_r (hb_r (hb_r (hb_r (hb_r (hb_r (hb_r (hb_r (kdX10_init_233))))))))))))))))))))))))))))
theorem dX10_init_289 : decode cX10_init 289 = .ok (.newarray .int, 2) := of_decide_eq_true (hb_l (hb_r (hb_r (hb_r (hb_r (hb_r (hb_r (hb_r (hb_r (hb_r (hb_r (hb_r (hb_r (hb_r (hb_r (hb_r (hb_r (hb_r (hb_r (hb_r (hb_r (hb_r (hb_r (hb_r (hb_r (hb_r (hb_r (hb_r (kdX10_init_233)))))))))))))))))))))))))))))
theorem dX10_init_291 : decode cX10_init 291 = .ok (.putfield 103, 3) := of_decide_eq_true (hb_l (hb_r (hb_r (hb_r (hb_r (hb_r (hb_r (hb_r (hb_r (hb_r (hb_r (hb_r (hb_r (hb_r (hb_r (hb_r (hb_r (hb_r (hb_r (hb_r (hb_r (hb_r (hb_r (hb_r (hb_r (hb_r (hb_r (hb_r (hb_r (kdX10_init_233))))))))))))))))))))))))))))))
theorem dX10_init_294 : decode cX10_init 294 = .ok (.aload_n 0, 1) := of_decide_eq_true (hb_l (hb_r (hb_r (hb_r (hb_r (hb_r (hb_r (hb_r (hb_r (hb_r (hb_r (hb_r (hb_r (hb_r (hb_r (hb_r (hb_r (hb_r (hb_r (hb_r (hb_r (hb_r (hb_r (hb_r (hb_r (hb_r (hb_r (hb_r (hb_r (hb_r (kdX10_init_233)))))))))))))))))))))))))))))))
theorem dX10_init_295 : decode cX10_init 295 = .ok (.sipush 169, 3) := of_decide_eq_true (hb_l (hb_r (hb_r (hb_r (hb_r (hb_r (hb_r (hb_r (hb_r (hb_r (hb_r (hb_r (hb_r (hb_r (hb_r (hb_r (hb_r (hb_r (hb_r (hb_r (hb_r (hb_r (hb_r (hb_r (hb_r (hb_r (hb_r (hb_r (hb_r (hb_r (hb_r (kdX10_init_233))))))))))))))))))))))))))))))))
theorem dX10_init_298 : decode cX10_init 298 = .ok (.newarray .int, 2) := of_decide_eq_true (hb_r (hb_r (hb_r (hb_r (hb_r (hb_r (hb_r (hb_r (hb_r (hb_r (hb_r (hb_r (hb_r (hb_r (hb_r (hb_r (hb_r (hb_r (hb_r (hb_r (hb_r (hb_r (hb_r (hb_r (hb_r (hb_r (hb_r (hb_r (hb_r (hb_r (hb_r (kdX10_init_233))))))))))))))))))))))))))))))))
theorem kdX10_init_300 : (decide (decode cX10_init 300 = .ok (.putfield 106, 3)) && (decide (decode cX10_init 303 = .ok (.return_, 1)))) = true := by decide +kernel
theorem dX10_init_300 : decode cX10_init 300 = .ok (.putfield 106, 3) := of_decide_eq_true (hb_l (kdX10_init_300))
theorem dX10_init_303 : decode cX10_init 303 = .ok (.return_, 1) := of_decide_eq_true (hb_r (kdX10_init_300))
theorem dX10_thrown_0 : decode cX10_thrown 0 = .ok (.aload_n 0, 1) := by decide +kernel
theorem dX10_thrown_1 : decode cX10_thrown 1 = .ok (.getfield 109, 3) := by decide +kernel
theorem dX10_thrown_4 : decode cX10_thrown 4 = .ok (.ireturn, 1) := by decide +kernel
theorem dX10_throwsIf_0 : decode cX10_throwsIf 0 = .ok (.iload_n 1, 1) := by decide +kernel
theorem dX10_throwsIf_1 : decode cX10_throwsIf 1 = .ok (.ifCond .eq 8, 3) := by decide +kernel
theorem dX10_throwsIf_4 : decode cX10_throwsIf 4 = .ok (.aload_n 0, 1) := by decide +kernel
theorem dX10_throwsIf_5 : decode cX10_throwsIf 5 = .ok (.iload_n 2, 1) := by decide +kernel
theorem dX10_throwsIf_6 : decode cX10_throwsIf 6 = .ok (.putfield 109, 3) := by decide +kernel
theorem dX10_throwsIf_9 : decode cX10_throwsIf 9 = .ok (.iload_n 1, 1) := by decide +kernel
theorem dX10_throwsIf_10 : decode cX10_throwsIf 10 = .ok (.ireturn, 1) := by decide +kernel
theorem dX10_in_0 : decode cX10_in 0 = .ok (.iload_n 0, 1) := by decide +kernel
theorem dX10_in_1 : decode cX10_in 1 = .ok (.iload_n 1, 1) := by decide +kernel
theorem dX10_in_2 : decode cX10_in 2 = .ok (.if_icmp .lt 12, 3) := by decide +kernel
theorem dX10_in_5 : decode cX10_in 5 = .ok (.iload_n 0, 1) := by decide +kernel
theorem dX10_in_6 : decode cX10_in 6 = .ok (.iload_n 2, 1) := by decide +kernel
theorem dX10_in_7 : decode cX10_in 7 = .ok (.if_icmp .gt 7, 3) := by decide +kernel
theorem dX10_in_10 : decode cX10_in 10 = .ok (.iconst 1, 1) := by decide +kernel
theorem dX10_in_11 : decode cX10_in 11 = .ok (.goto 4, 3) := by decide +kernel
theorem dX10_in_14 : decode cX10_in 14 = .ok (.iconst 0, 1) := by decide +kernel
theorem dX10_in_15 : decode cX10_in 15 = .ok (.ireturn, 1) := by decide +kernel
set_option maxRecDepth 20000 in
theorem ggX10_noJar_X10_in : GoodIn wsX10_noJar wsX10_in := goodIn_sub (xc (xt1 (xl (xt4 (xh)))) (xn)) (by decide +kernel)
set_option maxRecDepth 20000 in
theorem gX10_noJar_X10_in : GoodIn wsX10_noJar (va_wsS RX10 115 yX10_in wsX10_in) := goodIn_app (goodIn_sub (xc (xt1 (xl (xt1 (xh)))) (xc (xt1 (xl (xt1 (xt1 (xh))))) (xc (xt1 (xl (xt1 (xt1 (xt1 (xh)))))) (xn)))) (by decide +kernel)) ggX10_noJar_X10_in
theorem dX10_noJar_0 : decode cX10_noJar 0 = .ok (.iload_n 1, 1) := by decide +kernel
theorem dX10_noJar_1 : decode cX10_noJar 1 = .ok (.iconst 0, 1) := by decide +kernel
theorem dX10_noJar_2 : decode cX10_noJar 2 = .ok (.aload_n 0, 1) := by decide +kernel
theorem dX10_noJar_3 : decode cX10_noJar 3 = .ok (.getfield 112, 3) := by decide +kernel
theorem dX10_noJar_6 : decode cX10_noJar 6 = .ok (.iconst 1, 1) := by decide +kernel
theorem dX10_noJar_7 : decode cX10_noJar 7 = .ok (.isub, 1) := by decide +kernel
theorem dX10_noJar_8 : decode cX10_noJar 8 = .ok (.invokestatic 115, 3) := by decide +kernel
theorem dX10_noJar_11 : decode cX10_noJar 11 = .ok (.ifCond .ne 7, 3) := by decide +kernel
theorem dX10_noJar_14 : decode cX10_noJar 14 = .ok (.iconst 1, 1) := by decide +kernel
theorem dX10_noJar_15 : decode cX10_noJar 15 = .ok (.goto 4, 3) := by decide +kernel
theorem dX10_noJar_18 : decode cX10_noJar 18 = .ok (.iconst 0, 1) := by decide +kernel
theorem dX10_noJar_19 : decode cX10_noJar 19 = .ok (.ireturn, 1) := by decide +kernel
set_option maxRecDepth 20000 in
theorem ggX10_noHold_X10_in : GoodIn wsX10_noHold wsX10_in := goodIn_sub (xc (xt1 (xl (xt4 (xh)))) (xn)) (by decide +kernel)
set_option maxRecDepth 20000 in
theorem gX10_noHold_X10_in : GoodIn wsX10_noHold (va_wsS RX10 115 yX10_in wsX10_in) := goodIn_app (goodIn_sub (xc (xt1 (xl (xt1 (xh)))) (xc (xt1 (xl (xt1 (xt1 (xh))))) (xc (xt1 (xl (xt1 (xt1 (xt1 (xh)))))) (xn)))) (by decide +kernel)) ggX10_noHold_X10_in
theorem dX10_noHold_0 : decode cX10_noHold 0 = .ok (.iload_n 1, 1) := by decide +kernel
theorem dX10_noHold_1 : decode cX10_noHold 1 = .ok (.iconst 0, 1) := by decide +kernel
theorem dX10_noHold_2 : decode cX10_noHold 2 = .ok (.aload_n 0, 1) := by decide +kernel
theorem dX10_noHold_3 : decode cX10_noHold 3 = .ok (.getfield 119, 3) := by decide +kernel
theorem dX10_noHold_6 : decode cX10_noHold 6 = .ok (.iconst 1, 1) := by decide +kernel
theorem dX10_noHold_7 : decode cX10_noHold 7 = .ok (.isub, 1) := by decide +kernel
theorem dX10_noHold_8 : decode cX10_noHold 8 = .ok (.invokestatic 115, 3) := by decide +kernel
theorem dX10_noHold_11 : decode cX10_noHold 11 = .ok (.ifCond .eq 12, 3) := by decide +kernel
theorem dX10_noHold_14 : decode cX10_noHold 14 = .ok (.iload_n 2, 1) := by decide +kernel
theorem dX10_noHold_15 : decode cX10_noHold 15 = .ok (.iconst 0, 1) := by decide +kernel
theorem dX10_noHold_16 : decode cX10_noHold 16 = .ok (.iconst 5, 1) := by decide +kernel
theorem dX10_noHold_17 : decode cX10_noHold 17 = .ok (.invokestatic 115, 3) := by decide +kernel
theorem dX10_noHold_20 : decode cX10_noHold 20 = .ok (.ifCond .ne 7, 3) := by decide +kernel
theorem dX10_noHold_23 : decode cX10_noHold 23 = .ok (.iconst 1, 1) := by decide +kernel
theorem dX10_noHold_24 : decode cX10_noHold 24 = .ok (.goto 4, 3) := by decide +kernel
theorem dX10_noHold_27 : decode cX10_noHold 27 = .ok (.iconst 0, 1) := by decide +kernel
theorem dX10_noHold_28 : decode cX10_noHold 28 = .ok (.ireturn, 1) := by decide +kernel
theorem dX10_weight_0 : decode cX10_weight 0 = .ok (.aload_n 0, 1) := by decide +kernel
theorem dX10_weight_1 : decode cX10_weight 1 = .ok (.getfield 9, 3) := by decide +kernel
theorem dX10_weight_4 : decode cX10_weight 4 = .ok (.aload_n 0, 1) := by decide +kernel
theorem dX10_weight_5 : decode cX10_weight 5 = .ok (.getfield 19, 3) := by decide +kernel
theorem dX10_weight_8 : decode cX10_weight 8 = .ok (.iload_n 1, 1) := by decide +kernel
theorem dX10_weight_9 : decode cX10_weight 9 = .ok (.iaload, 1) := by decide +kernel
theorem dX10_weight_10 : decode cX10_weight 10 = .ok (.iaload, 1) := by decide +kernel
theorem dX10_weight_11 : decode cX10_weight 11 = .ok (.aload_n 0, 1) := by decide +kernel
theorem dX10_weight_12 : decode cX10_weight 12 = .ok (.getfield 28, 3) := by decide +kernel
theorem dX10_weight_15 : decode cX10_weight 15 = .ok (.iload_n 1, 1) := by decide +kernel
theorem dX10_weight_16 : decode cX10_weight 16 = .ok (.iaload, 1) := by decide +kernel
theorem dX10_weight_17 : decode cX10_weight 17 = .ok (.iadd, 1) := by decide +kernel
theorem dX10_weight_18 : decode cX10_weight 18 = .ok (.ireturn, 1) := by decide +kernel
set_option maxRecDepth 20000 in
theorem ggX10_kind_X10_in : GoodIn wsX10_kind wsX10_in := goodIn_sub (xc (xt1 (xl (xt4 (xt4 (xh))))) (xn)) (by decide +kernel)
set_option maxRecDepth 20000 in
theorem gX10_kind_X10_in : GoodIn wsX10_kind (va_wsS RX10 115 yX10_in wsX10_in) := goodIn_app (goodIn_sub (xc (xt1 (xl (xt4 (xt1 (xh))))) (xc (xt1 (xl (xt4 (xt1 (xt1 (xh)))))) (xc (xt1 (xl (xt4 (xt1 (xt1 (xt1 (xh))))))) (xn)))) (by decide +kernel)) ggX10_kind_X10_in
set_option maxRecDepth 20000 in
theorem ggX10_kind_X10_throwsIf : GoodIn wsX10_kind wsX10_throwsIf := goodIn_sub (xc (xt1 (xl (xt4 (xt4 (xt4 (xh)))))) (xa (xc (xt1 (xl (xh))) (xn)) (fun _ h => xt1 (xr (h))))) (by decide +kernel)
set_option maxRecDepth 20000 in
theorem gX10_kind_X10_throwsIf : GoodIn wsX10_kind (wsV RX10 122 RX10 yX10_throwsIf wsX10_throwsIf) := goodIn_app (goodIn_sub (xc (xt1 (xl (xt4 (xt4 (xt1 (xh)))))) (xc (xt1 (xl (xt4 (xt4 (xt1 (xt1 (xh))))))) (xc (xt1 (xl (xt4 (xt4 (xt1 (xt1 (xt1 (xh)))))))) (xc (xt1 (xl (xt4 (xt1 (xt1 (xt1 (xh))))))) (xn))))) (by decide +kernel)) ggX10_kind_X10_throwsIf
theorem dX10_kind_0 : decode cX10_kind 0 = .ok (.aload_n 0, 1) := by decide +kernel
theorem dX10_kind_1 : decode cX10_kind 1 = .ok (.iconst 0, 1) := by decide +kernel
theorem dX10_kind_2 : decode cX10_kind 2 = .ok (.putfield 109, 3) := by decide +kernel
theorem dX10_kind_5 : decode cX10_kind 5 = .ok (.aload_n 0, 1) := by decide +kernel
theorem dX10_kind_6 : decode cX10_kind 6 = .ok (.iload_n 1, 1) := by decide +kernel
theorem dX10_kind_7 : decode cX10_kind 7 = .ok (.iconst 1, 1) := by decide +kernel
theorem dX10_kind_8 : decode cX10_kind 8 = .ok (.bipush 100, 2) := by decide +kernel
theorem dX10_kind_10 : decode cX10_kind 10 = .ok (.invokestatic 115, 3) := by decide +kernel
theorem dX10_kind_13 : decode cX10_kind 13 = .ok (.ifCond .eq 25, 3) := by decide +kernel
theorem dX10_kind_16 : decode cX10_kind 16 = .ok (.iload_n 2, 1) := by decide +kernel
theorem dX10_kind_17 : decode cX10_kind 17 = .ok (.iconst 1, 1) := by decide +kernel
theorem dX10_kind_18 : decode cX10_kind 18 = .ok (.sipush 200, 3) := by decide +kernel
theorem dX10_kind_21 : decode cX10_kind 21 = .ok (.invokestatic 115, 3) := by decide +kernel
theorem dX10_kind_24 : decode cX10_kind 24 = .ok (.ifCond .eq 14, 3) := by decide +kernel
theorem dX10_kind_27 : decode cX10_kind 27 = .ok (.iload_n 3, 1) := by decide +kernel
theorem dX10_kind_28 : decode cX10_kind 28 = .ok (.iconst 0, 1) := by decide +kernel
theorem dX10_kind_29 : decode cX10_kind 29 = .ok (.sipush 5000, 3) := by decide +kernel
theorem dX10_kind_32 : decode cX10_kind 32 = .ok (.invokestatic 115, 3) := by decide +kernel
theorem dX10_kind_35 : decode cX10_kind 35 = .ok (.ifCond .ne 7, 3) := by decide +kernel
theorem dX10_kind_38 : decode cX10_kind 38 = .ok (.iconst 1, 1) := by decide +kernel
theorem dX10_kind_39 : decode cX10_kind 39 = .ok (.goto 4, 3) := by decide +kernel
theorem dX10_kind_42 : decode cX10_kind 42 = .ok (.iconst 0, 1) := by decide +kernel
theorem dX10_kind_43 : decode cX10_kind 43 = .ok (.iconst 1, 1) := by decide +kernel
theorem dX10_kind_44 : decode cX10_kind 44 = .ok (.invokevirtual 122, 3) := by decide +kernel
theorem dX10_kind_47 : decode cX10_kind 47 = .ok (.ifCond .ne 25, 3) := by decide +kernel
theorem dX10_kind_50 : decode cX10_kind 50 = .ok (.aload_n 0, 1) := by decide +kernel
theorem dX10_kind_51 : decode cX10_kind 51 = .ok (.aload_n 0, 1) := by decide +kernel
theorem dX10_kind_52 : decode cX10_kind 52 = .ok (.getfield 126, 3) := by decide +kernel
theorem dX10_kind_55 : decode cX10_kind 55 = .ok (.bipush 8, 2) := by decide +kernel
theorem dX10_kind_57 : decode cX10_kind 57 = .ok (.if_icmp .ne 7, 3) := by decide +kernel
theorem dX10_kind_60 : decode cX10_kind 60 = .ok (.iconst 1, 1) := by decide +kernel
theorem dX10_kind_61 : decode cX10_kind 61 = .ok (.goto 4, 3) := by decide +kernel
theorem dX10_kind_64 : decode cX10_kind 64 = .ok (.iconst 0, 1) := by decide +kernel
theorem dX10_kind_65 : decode cX10_kind 65 = .ok (.iconst 2, 1) := by decide +kernel
theorem dX10_kind_66 : decode cX10_kind 66 = .ok (.invokevirtual 122, 3) := by decide +kernel
theorem dX10_kind_69 : decode cX10_kind 69 = .ok (.ifCond .eq 5, 3) := by decide +kernel
theorem dX10_kind_72 : decode cX10_kind 72 = .ok (.iconst 0, 1) := by decide +kernel
theorem dX10_kind_73 : decode cX10_kind 73 = .ok (.ireturn, 1) := by decide +kernel
theorem dX10_kind_74 : decode cX10_kind 74 = .ok (.aload_n 0, 1) := by decide +kernel
theorem dX10_kind_75 : decode cX10_kind 75 = .ok (.getfield 9, 3) := by decide +kernel
theorem dX10_kind_78 : decode cX10_kind 78 = .ok (.aload_n 0, 1) := by decide +kernel
theorem dX10_kind_79 : decode cX10_kind 79 = .ok (.getfield 126, 3) := by decide +kernel
theorem dX10_kind_82 : decode cX10_kind 82 = .ok (.iload_n 1, 1) := by decide +kernel
theorem dX10_kind_83 : decode cX10_kind 83 = .ok (.iastore, 1) := by decide +kernel
theorem dX10_kind_84 : decode cX10_kind 84 = .ok (.aload_n 0, 1) := by decide +kernel
theorem dX10_kind_85 : decode cX10_kind 85 = .ok (.getfield 13, 3) := by decide +kernel
theorem dX10_kind_88 : decode cX10_kind 88 = .ok (.aload_n 0, 1) := by decide +kernel
theorem dX10_kind_89 : decode cX10_kind 89 = .ok (.getfield 126, 3) := by decide +kernel
theorem dX10_kind_92 : decode cX10_kind 92 = .ok (.iload_n 2, 1) := by decide +kernel
theorem dX10_kind_93 : decode cX10_kind 93 = .ok (.iastore, 1) := by decide +kernel
theorem dX10_kind_94 : decode cX10_kind 94 = .ok (.aload_n 0, 1) := by decide +kernel
theorem dX10_kind_95 : decode cX10_kind 95 = .ok (.getfield 16, 3) := by decide +kernel
theorem dX10_kind_98 : decode cX10_kind 98 = .ok (.aload_n 0, 1) := by decide +kernel
theorem dX10_kind_99 : decode cX10_kind 99 = .ok (.getfield 126, 3) := by decide +kernel
theorem dX10_kind_102 : decode cX10_kind 102 = .ok (.iload_n 3, 1) := by decide +kernel
theorem dX10_kind_103 : decode cX10_kind 103 = .ok (.iastore, 1) := by decide +kernel
theorem dX10_kind_104 : decode cX10_kind 104 = .ok (.aload_n 0, 1) := by decide +kernel
theorem dX10_kind_105 : decode cX10_kind 105 = .ok (.dup, 1) := by decide +kernel
theorem dX10_kind_106 : decode cX10_kind 106 = .ok (.getfield 126, 3) := by decide +kernel
theorem dX10_kind_109 : decode cX10_kind 109 = .ok (.iconst 1, 1) := by decide +kernel
theorem dX10_kind_110 : decode cX10_kind 110 = .ok (.iadd, 1) := by decide +kernel
theorem dX10_kind_111 : decode cX10_kind 111 = .ok (.putfield 126, 3) := by decide +kernel
theorem dX10_kind_114 : decode cX10_kind 114 = .ok (.aload_n 0, 1) := by decide +kernel
theorem dX10_kind_115 : decode cX10_kind 115 = .ok (.getfield 126, 3) := by decide +kernel
theorem dX10_kind_118 : decode cX10_kind 118 = .ok (.iconst 1, 1) := by decide +kernel
theorem dX10_kind_119 : decode cX10_kind 119 = .ok (.isub, 1) := by decide +kernel
theorem dX10_kind_120 : decode cX10_kind 120 = .ok (.ireturn, 1) := by decide +kernel
set_option maxRecDepth 20000 in
theorem ggX10_fire_X10_in : GoodIn wsX10_fire wsX10_in := goodIn_sub (xc (xt1 (xl (xt4 (xt4 (xt1 (xt1 (xh))))))) (xn)) (by decide +kernel)
set_option maxRecDepth 20000 in
theorem gX10_fire_X10_in : GoodIn wsX10_fire (va_wsS RX10 115 yX10_in wsX10_in) := goodIn_app (goodIn_sub (xc (xt1 (xl (xt4 (xt1 (xt1 (xt1 (xh))))))) (xc (xt1 (xl (xt4 (xt4 (xh))))) (xc (xt1 (xl (xt4 (xt4 (xt1 (xh)))))) (xn)))) (by decide +kernel)) ggX10_fire_X10_in
set_option maxRecDepth 20000 in
theorem ggX10_fire_X10_throwsIf : GoodIn wsX10_fire wsX10_throwsIf := goodIn_sub (xc (xt1 (xl (xt4 (xt4 (xt4 (xt1 (xt1 (xh)))))))) (xa (xc (xt1 (xl (xh))) (xn)) (fun _ h => xt1 (xr (h))))) (by decide +kernel)
set_option maxRecDepth 20000 in
theorem gX10_fire_X10_throwsIf : GoodIn wsX10_fire (wsV RX10 122 RX10 yX10_throwsIf wsX10_throwsIf) := goodIn_app (goodIn_sub (xc (xt1 (xl (xt4 (xt4 (xt1 (xt1 (xt1 (xh)))))))) (xc (xt1 (xl (xt4 (xt4 (xt4 (xh)))))) (xc (xt1 (xl (xt4 (xt4 (xt4 (xt1 (xh))))))) (xc (xt1 (xl (xt4 (xt4 (xt1 (xh)))))) (xn))))) (by decide +kernel)) ggX10_fire_X10_throwsIf
theorem dX10_fire_0 : decode cX10_fire 0 = .ok (.aload_n 0, 1) := by decide +kernel
theorem dX10_fire_1 : decode cX10_fire 1 = .ok (.iconst 0, 1) := by decide +kernel
theorem dX10_fire_2 : decode cX10_fire 2 = .ok (.putfield 109, 3) := by decide +kernel
theorem dX10_fire_5 : decode cX10_fire 5 = .ok (.aload_n 0, 1) := by decide +kernel
theorem dX10_fire_6 : decode cX10_fire 6 = .ok (.iload_n 1, 1) := by decide +kernel
theorem dX10_fire_7 : decode cX10_fire 7 = .ok (.iconst 0, 1) := by decide +kernel
theorem dX10_fire_8 : decode cX10_fire 8 = .ok (.aload_n 0, 1) := by decide +kernel
theorem dX10_fire_9 : decode cX10_fire 9 = .ok (.getfield 126, 3) := by decide +kernel
theorem dX10_fire_12 : decode cX10_fire 12 = .ok (.iconst 1, 1) := by decide +kernel
theorem dX10_fire_13 : decode cX10_fire 13 = .ok (.isub, 1) := by decide +kernel
theorem dX10_fire_14 : decode cX10_fire 14 = .ok (.invokestatic 115, 3) := by decide +kernel
theorem dX10_fire_17 : decode cX10_fire 17 = .ok (.ifCond .ne 7, 3) := by decide +kernel
theorem dX10_fire_20 : decode cX10_fire 20 = .ok (.iconst 1, 1) := by decide +kernel
theorem dX10_fire_21 : decode cX10_fire 21 = .ok (.goto 4, 3) := by decide +kernel
theorem dX10_fire_24 : decode cX10_fire 24 = .ok (.iconst 0, 1) := by decide +kernel
theorem dX10_fire_25 : decode cX10_fire 25 = .ok (.iconst 1, 1) := by decide +kernel
theorem dX10_fire_26 : decode cX10_fire 26 = .ok (.invokevirtual 122, 3) := by decide +kernel
theorem dX10_fire_29 : decode cX10_fire 29 = .ok (.ifCond .ne 59, 3) := by decide +kernel
theorem dX10_fire_32 : decode cX10_fire 32 = .ok (.aload_n 0, 1) := by decide +kernel
theorem dX10_fire_33 : decode cX10_fire 33 = .ok (.iload_n 2, 1) := by decide +kernel
theorem dX10_fire_34 : decode cX10_fire 34 = .ok (.iconst 0, 1) := by decide +kernel
theorem dX10_fire_35 : decode cX10_fire 35 = .ok (.bipush 15, 2) := by decide +kernel
theorem dX10_fire_37 : decode cX10_fire 37 = .ok (.invokestatic 115, 3) := by decide +kernel
theorem dX10_fire_40 : decode cX10_fire 40 = .ok (.ifCond .eq 14, 3) := by decide +kernel
theorem dX10_fire_43 : decode cX10_fire 43 = .ok (.iload_n 3, 1) := by decide +kernel
theorem dX10_fire_44 : decode cX10_fire 44 = .ok (.iconst 1, 1) := by decide +kernel
theorem dX10_fire_45 : decode cX10_fire 45 = .ok (.sipush 300, 3) := by decide +kernel
theorem dX10_fire_48 : decode cX10_fire 48 = .ok (.invokestatic 115, 3) := by decide +kernel
theorem dX10_fire_51 : decode cX10_fire 51 = .ok (.ifCond .ne 7, 3) := by decide +kernel
theorem dX10_fire_54 : decode cX10_fire 54 = .ok (.iconst 1, 1) := by decide +kernel
theorem dX10_fire_55 : decode cX10_fire 55 = .ok (.goto 4, 3) := by decide +kernel
theorem dX10_fire_58 : decode cX10_fire 58 = .ok (.iconst 0, 1) := by decide +kernel
theorem dX10_fire_59 : decode cX10_fire 59 = .ok (.iconst 2, 1) := by decide +kernel
theorem dX10_fire_60 : decode cX10_fire 60 = .ok (.invokevirtual 122, 3) := by decide +kernel
theorem dX10_fire_63 : decode cX10_fire 63 = .ok (.ifCond .ne 25, 3) := by decide +kernel
theorem dX10_fire_66 : decode cX10_fire 66 = .ok (.aload_n 0, 1) := by decide +kernel
theorem dX10_fire_67 : decode cX10_fire 67 = .ok (.aload_n 0, 1) := by decide +kernel
theorem dX10_fire_68 : decode cX10_fire 68 = .ok (.getfield 112, 3) := by decide +kernel
theorem dX10_fire_71 : decode cX10_fire 71 = .ok (.bipush 60, 2) := by decide +kernel
theorem dX10_fire_73 : decode cX10_fire 73 = .ok (.if_icmp .ne 7, 3) := by decide +kernel
theorem dX10_fire_76 : decode cX10_fire 76 = .ok (.iconst 1, 1) := by decide +kernel
theorem dX10_fire_77 : decode cX10_fire 77 = .ok (.goto 4, 3) := by decide +kernel
theorem dX10_fire_80 : decode cX10_fire 80 = .ok (.iconst 0, 1) := by decide +kernel
theorem dX10_fire_81 : decode cX10_fire 81 = .ok (.iconst 3, 1) := by decide +kernel
theorem dX10_fire_82 : decode cX10_fire 82 = .ok (.invokevirtual 122, 3) := by decide +kernel
theorem dX10_fire_85 : decode cX10_fire 85 = .ok (.ifCond .eq 5, 3) := by decide +kernel
theorem dX10_fire_88 : decode cX10_fire 88 = .ok (.iconst 0, 1) := by decide +kernel
theorem dX10_fire_89 : decode cX10_fire 89 = .ok (.ireturn, 1) := by decide +kernel
theorem dX10_fire_90 : decode cX10_fire 90 = .ok (.aload_n 0, 1) := by decide +kernel
theorem dX10_fire_91 : decode cX10_fire 91 = .ok (.getfield 19, 3) := by decide +kernel
theorem dX10_fire_94 : decode cX10_fire 94 = .ok (.aload_n 0, 1) := by decide +kernel
theorem dX10_fire_95 : decode cX10_fire 95 = .ok (.getfield 112, 3) := by decide +kernel
theorem dX10_fire_98 : decode cX10_fire 98 = .ok (.iload_n 1, 1) := by decide +kernel
theorem dX10_fire_99 : decode cX10_fire 99 = .ok (.iastore, 1) := by decide +kernel
theorem dX10_fire_100 : decode cX10_fire 100 = .ok (.aload_n 0, 1) := by decide +kernel
theorem dX10_fire_101 : decode cX10_fire 101 = .ok (.getfield 22, 3) := by decide +kernel
theorem dX10_fire_104 : decode cX10_fire 104 = .ok (.aload_n 0, 1) := by decide +kernel
theorem dX10_fire_105 : decode cX10_fire 105 = .ok (.getfield 112, 3) := by decide +kernel
theorem dX10_fire_108 : decode cX10_fire 108 = .ok (.iload_n 2, 1) := by decide +kernel
theorem dX10_fire_109 : decode cX10_fire 109 = .ok (.iastore, 1) := by decide +kernel
theorem dX10_fire_110 : decode cX10_fire 110 = .ok (.aload_n 0, 1) := by decide +kernel
theorem dX10_fire_111 : decode cX10_fire 111 = .ok (.getfield 25, 3) := by decide +kernel
theorem dX10_fire_114 : decode cX10_fire 114 = .ok (.aload_n 0, 1) := by decide +kernel
theorem dX10_fire_115 : decode cX10_fire 115 = .ok (.getfield 112, 3) := by decide +kernel
theorem dX10_fire_118 : decode cX10_fire 118 = .ok (.iload_n 3, 1) := by decide +kernel
theorem dX10_fire_119 : decode cX10_fire 119 = .ok (.iastore, 1) := by decide +kernel
theorem dX10_fire_120 : decode cX10_fire 120 = .ok (.aload_n 0, 1) := by decide +kernel
theorem dX10_fire_121 : decode cX10_fire 121 = .ok (.getfield 34, 3) := by decide +kernel
theorem dX10_fire_124 : decode cX10_fire 124 = .ok (.aload_n 0, 1) := by decide +kernel
theorem dX10_fire_125 : decode cX10_fire 125 = .ok (.getfield 112, 3) := by decide +kernel
theorem dX10_fire_128 : decode cX10_fire 128 = .ok (.iconst (-1), 1) := by decide +kernel
theorem dX10_fire_129 : decode cX10_fire 129 = .ok (.iastore, 1) := by decide +kernel
theorem dX10_fire_130 : decode cX10_fire 130 = .ok (.aload_n 0, 1) := by decide +kernel
theorem dX10_fire_131 : decode cX10_fire 131 = .ok (.dup, 1) := by decide +kernel
theorem dX10_fire_132 : decode cX10_fire 132 = .ok (.getfield 112, 3) := by decide +kernel
theorem dX10_fire_135 : decode cX10_fire 135 = .ok (.iconst 1, 1) := by decide +kernel
theorem dX10_fire_136 : decode cX10_fire 136 = .ok (.iadd, 1) := by decide +kernel
theorem dX10_fire_137 : decode cX10_fire 137 = .ok (.putfield 112, 3) := by decide +kernel
theorem dX10_fire_140 : decode cX10_fire 140 = .ok (.aload_n 0, 1) := by decide +kernel
theorem dX10_fire_141 : decode cX10_fire 141 = .ok (.getfield 112, 3) := by decide +kernel
theorem dX10_fire_144 : decode cX10_fire 144 = .ok (.iconst 1, 1) := by decide +kernel
theorem dX10_fire_145 : decode cX10_fire 145 = .ok (.isub, 1) := by decide +kernel
theorem dX10_fire_146 : decode cX10_fire 146 = .ok (.ireturn, 1) := by decide +kernel
set_option maxRecDepth 20000 in
theorem ggX10_fill_X10_noJar : GoodIn wsX10_fill wsX10_noJar := goodIn_sub (xc (xt1 (xl (xt4 (xt4 (xt1 (xh)))))) (xa (xc (xt1 (xl (xt4 (xt4 (xt1 (xt1 (xh))))))) (xc (xt1 (xl (xt4 (xt4 (xt1 (xt1 (xt1 (xh)))))))) (xc (xt1 (xl (xt4 (xt4 (xt4 (xh)))))) (xc (xt1 (xl (xt4 (xt4 (xh))))) (xc (xt1 (xl (xt4 (xt4 (xt4 (xt1 (xh))))))) (xn)))))) (fun _ h => xt1 (xr (h))))) (by decide +kernel)
set_option maxRecDepth 20000 in
theorem gX10_fill_X10_noJar : GoodIn wsX10_fill (wsV RX10 129 RX10 yX10_noJar wsX10_noJar) := goodIn_app (goodIn_sub (xc (xt1 (xl (xt4 (xt1 (xh))))) (xc (xt1 (xl (xt4 (xt1 (xt1 (xh)))))) (xc (xt1 (xl (xt4 (xt1 (xt1 (xt1 (xh))))))) (xc (xt1 (xl (xt4 (xt4 (xh))))) (xn))))) (by decide +kernel)) ggX10_fill_X10_noJar
set_option maxRecDepth 20000 in
theorem ggX10_fill_X10_throwsIf : GoodIn wsX10_fill wsX10_throwsIf := goodIn_sub (xc (xt1 (xl (xt16 (xt1 (xh))))) (xa (xc (xt1 (xl (xh))) (xn)) (fun _ h => xt1 (xr (h))))) (by decide +kernel)
set_option maxRecDepth 20000 in
theorem gX10_fill_X10_throwsIf : GoodIn wsX10_fill (wsV RX10 122 RX10 yX10_throwsIf wsX10_throwsIf) := goodIn_app (goodIn_sub (xc (xt1 (xl (xt4 (xt4 (xt4 (xt1 (xt1 (xh)))))))) (xc (xt1 (xl (xt4 (xt4 (xt4 (xt1 (xt1 (xt1 (xh))))))))) (xc (xt1 (xl (xt16 (xh)))) (xc (xt1 (xl (xt4 (xt4 (xh))))) (xn))))) (by decide +kernel)) ggX10_fill_X10_throwsIf
set_option maxRecDepth 20000 in
theorem ggX10_fill_X10_in : GoodIn wsX10_fill wsX10_in := goodIn_sub (xc (xt1 (xl (xt4 (xt4 (xt4 (xt1 (xh))))))) (xn)) (by decide +kernel)
set_option maxRecDepth 20000 in
theorem gX10_fill_X10_in : GoodIn wsX10_fill (va_wsS RX10 115 yX10_in wsX10_in) := goodIn_app (goodIn_sub (xc (xt1 (xl (xt4 (xt4 (xt1 (xt1 (xt1 (xh)))))))) (xc (xt1 (xl (xt4 (xt4 (xt4 (xh)))))) (xc (xt1 (xl (xt4 (xt4 (xh))))) (xn)))) (by decide +kernel)) ggX10_fill_X10_in
theorem dX10_fill_0 : decode cX10_fill 0 = .ok (.aload_n 0, 1) := by decide +kernel
theorem dX10_fill_1 : decode cX10_fill 1 = .ok (.iconst 0, 1) := by decide +kernel
theorem dX10_fill_2 : decode cX10_fill 2 = .ok (.putfield 109, 3) := by decide +kernel
theorem dX10_fill_5 : decode cX10_fill 5 = .ok (.aload_n 0, 1) := by decide +kernel
theorem dX10_fill_6 : decode cX10_fill 6 = .ok (.aload_n 0, 1) := by decide +kernel
theorem dX10_fill_7 : decode cX10_fill 7 = .ok (.iload_n 1, 1) := by decide +kernel
theorem dX10_fill_8 : decode cX10_fill 8 = .ok (.invokevirtual 129, 3) := by decide +kernel
theorem dX10_fill_11 : decode cX10_fill 11 = .ok (.iconst 1, 1) := by decide +kernel
theorem dX10_fill_12 : decode cX10_fill 12 = .ok (.invokevirtual 122, 3) := by decide +kernel
theorem dX10_fill_15 : decode cX10_fill 15 = .ok (.ifCond .ne 27, 3) := by decide +kernel
theorem dX10_fill_18 : decode cX10_fill 18 = .ok (.aload_n 0, 1) := by decide +kernel
theorem dX10_fill_19 : decode cX10_fill 19 = .ok (.iload_n 2, 1) := by decide +kernel
theorem dX10_fill_20 : decode cX10_fill 20 = .ok (.iconst 1, 1) := by decide +kernel
theorem dX10_fill_21 : decode cX10_fill 21 = .ok (.sipush 200, 3) := by decide +kernel
theorem dX10_fill_24 : decode cX10_fill 24 = .ok (.invokestatic 115, 3) := by decide +kernel
theorem dX10_fill_27 : decode cX10_fill 27 = .ok (.ifCond .ne 7, 3) := by decide +kernel
theorem dX10_fill_30 : decode cX10_fill 30 = .ok (.iconst 1, 1) := by decide +kernel
theorem dX10_fill_31 : decode cX10_fill 31 = .ok (.goto 4, 3) := by decide +kernel
theorem dX10_fill_34 : decode cX10_fill 34 = .ok (.iconst 0, 1) := by decide +kernel
theorem dX10_fill_35 : decode cX10_fill 35 = .ok (.iconst 2, 1) := by decide +kernel
theorem dX10_fill_36 : decode cX10_fill 36 = .ok (.invokevirtual 122, 3) := by decide +kernel
theorem dX10_fill_39 : decode cX10_fill 39 = .ok (.ifCond .eq 5, 3) := by decide +kernel
theorem dX10_fill_42 : decode cX10_fill 42 = .ok (.iconst 0, 1) := by decide +kernel
theorem dX10_fill_43 : decode cX10_fill 43 = .ok (.ireturn, 1) := by decide +kernel
theorem dX10_fill_44 : decode cX10_fill 44 = .ok (.aload_n 0, 1) := by decide +kernel
theorem dX10_fill_45 : decode cX10_fill 45 = .ok (.getfield 31, 3) := by decide +kernel
theorem dX10_fill_48 : decode cX10_fill 48 = .ok (.iload_n 1, 1) := by decide +kernel
theorem dX10_fill_49 : decode cX10_fill 49 = .ok (.iaload, 1) := by decide +kernel
theorem dX10_fill_50 : decode cX10_fill 50 = .ok (.ifCond .ne 25, 3) := by decide +kernel
theorem dX10_fill_53 : decode cX10_fill 53 = .ok (.aload_n 0, 1) := by decide +kernel
theorem dX10_fill_54 : decode cX10_fill 54 = .ok (.getfield 28, 3) := by decide +kernel
theorem dX10_fill_57 : decode cX10_fill 57 = .ok (.iload_n 1, 1) := by decide +kernel
theorem dX10_fill_58 : decode cX10_fill 58 = .ok (.iaload, 1) := by decide +kernel
theorem dX10_fill_59 : decode cX10_fill 59 = .ok (.iload_n 2, 1) := by decide +kernel
theorem dX10_fill_60 : decode cX10_fill 60 = .ok (.iadd, 1) := by decide +kernel
theorem dX10_fill_61 : decode cX10_fill 61 = .ok (.aload_n 0, 1) := by decide +kernel
theorem dX10_fill_62 : decode cX10_fill 62 = .ok (.getfield 13, 3) := by decide +kernel
theorem dX10_fill_65 : decode cX10_fill 65 = .ok (.aload_n 0, 1) := by decide +kernel
theorem dX10_fill_66 : decode cX10_fill 66 = .ok (.getfield 19, 3) := by decide +kernel
theorem dX10_fill_69 : decode cX10_fill 69 = .ok (.iload_n 1, 1) := by decide +kernel
theorem dX10_fill_70 : decode cX10_fill 70 = .ok (.iaload, 1) := by decide +kernel
theorem dX10_fill_71 : decode cX10_fill 71 = .ok (.iaload, 1) := by decide +kernel
theorem dX10_fill_72 : decode cX10_fill 72 = .ok (.if_icmp .le 5, 3) := by decide +kernel
theorem dX10_fill_75 : decode cX10_fill 75 = .ok (.iconst (-1), 1) := by decide +kernel
theorem dX10_fill_76 : decode cX10_fill 76 = .ok (.ireturn, 1) := by decide +kernel
theorem dX10_fill_77 : decode cX10_fill 77 = .ok (.aload_n 0, 1) := by decide +kernel
theorem dX10_fill_78 : decode cX10_fill 78 = .ok (.getfield 28, 3) := by decide +kernel
theorem dX10_fill_81 : decode cX10_fill 81 = .ok (.iload_n 1, 1) := by decide +kernel
theorem dX10_fill_82 : decode cX10_fill 82 = .ok (.dup2, 1) := by decide +kernel
theorem dX10_fill_83 : decode cX10_fill 83 = .ok (.iaload, 1) := by decide +kernel
theorem dX10_fill_84 : decode cX10_fill 84 = .ok (.iload_n 2, 1) := by decide +kernel
theorem dX10_fill_85 : decode cX10_fill 85 = .ok (.iadd, 1) := by decide +kernel
theorem dX10_fill_86 : decode cX10_fill 86 = .ok (.iastore, 1) := by decide +kernel
theorem dX10_fill_87 : decode cX10_fill 87 = .ok (.aload_n 0, 1) := by decide +kernel
theorem dX10_fill_88 : decode cX10_fill 88 = .ok (.getfield 28, 3) := by decide +kernel
theorem dX10_fill_91 : decode cX10_fill 91 = .ok (.iload_n 1, 1) := by decide +kernel
theorem dX10_fill_92 : decode cX10_fill 92 = .ok (.iaload, 1) := by decide +kernel
theorem dX10_fill_93 : decode cX10_fill 93 = .ok (.ireturn, 1) := by decide +kernel
set_option maxRecDepth 20000 in
theorem ggX10_ship_X10_throwsIf : GoodIn wsX10_ship wsX10_throwsIf := goodIn_sub (xc (xt1 (xl (xt4 (xt1 (xt1 (xh)))))) (xa (xc (xt1 (xl (xh))) (xn)) (fun _ h => xt1 (xr (h))))) (by decide +kernel)
set_option maxRecDepth 20000 in
theorem gX10_ship_X10_throwsIf : GoodIn wsX10_ship (wsV RX10 122 RX10 yX10_throwsIf wsX10_throwsIf) := goodIn_app (goodIn_sub (xc (xt1 (xl (xt1 (xt1 (xh))))) (xc (xt1 (xl (xt1 (xt1 (xt1 (xh)))))) (xc (xt1 (xl (xt4 (xh)))) (xc (xt1 (xl (xt4 (xt1 (xh))))) (xn))))) (by decide +kernel)) ggX10_ship_X10_throwsIf
theorem dX10_ship_0 : decode cX10_ship 0 = .ok (.aload_n 0, 1) := by decide +kernel
theorem dX10_ship_1 : decode cX10_ship 1 = .ok (.iconst 0, 1) := by decide +kernel
theorem dX10_ship_2 : decode cX10_ship 2 = .ok (.putfield 109, 3) := by decide +kernel
theorem dX10_ship_5 : decode cX10_ship 5 = .ok (.aload_n 0, 1) := by decide +kernel
theorem dX10_ship_6 : decode cX10_ship 6 = .ok (.aload_n 0, 1) := by decide +kernel
theorem dX10_ship_7 : decode cX10_ship 7 = .ok (.getfield 119, 3) := by decide +kernel
theorem dX10_ship_10 : decode cX10_ship 10 = .ok (.iconst 4, 1) := by decide +kernel
theorem dX10_ship_11 : decode cX10_ship 11 = .ok (.if_icmp .ne 7, 3) := by decide +kernel
theorem dX10_ship_14 : decode cX10_ship 14 = .ok (.iconst 1, 1) := by decide +kernel
theorem dX10_ship_15 : decode cX10_ship 15 = .ok (.goto 4, 3) := by decide +kernel
theorem dX10_ship_18 : decode cX10_ship 18 = .ok (.iconst 0, 1) := by decide +kernel
theorem dX10_ship_19 : decode cX10_ship 19 = .ok (.iconst 1, 1) := by decide +kernel
theorem dX10_ship_20 : decode cX10_ship 20 = .ok (.invokevirtual 122, 3) := by decide +kernel
theorem dX10_ship_23 : decode cX10_ship 23 = .ok (.ifCond .eq 5, 3) := by decide +kernel
theorem dX10_ship_26 : decode cX10_ship 26 = .ok (.iconst 0, 1) := by decide +kernel
theorem dX10_ship_27 : decode cX10_ship 27 = .ok (.ireturn, 1) := by decide +kernel
theorem dX10_ship_28 : decode cX10_ship 28 = .ok (.aload_n 0, 1) := by decide +kernel
theorem dX10_ship_29 : decode cX10_ship 29 = .ok (.dup, 1) := by decide +kernel
theorem dX10_ship_30 : decode cX10_ship 30 = .ok (.getfield 119, 3) := by decide +kernel
theorem dX10_ship_33 : decode cX10_ship 33 = .ok (.iconst 1, 1) := by decide +kernel
theorem dX10_ship_34 : decode cX10_ship 34 = .ok (.iadd, 1) := by decide +kernel
theorem dX10_ship_35 : decode cX10_ship 35 = .ok (.putfield 119, 3) := by decide +kernel
theorem dX10_ship_38 : decode cX10_ship 38 = .ok (.aload_n 0, 1) := by decide +kernel
theorem dX10_ship_39 : decode cX10_ship 39 = .ok (.getfield 119, 3) := by decide +kernel
theorem dX10_ship_42 : decode cX10_ship 42 = .ok (.iconst 1, 1) := by decide +kernel
theorem dX10_ship_43 : decode cX10_ship 43 = .ok (.isub, 1) := by decide +kernel
theorem dX10_ship_44 : decode cX10_ship 44 = .ok (.ireturn, 1) := by decide +kernel
set_option maxRecDepth 20000 in
theorem ggX10_above_X10_weight : GoodIn wsX10_above wsX10_weight := goodIn_sub (xc (xt1 (xl (xt4 (xt1 (xt1 (xh)))))) (xa (xc (xt1 (xl (xt4 (xt1 (xt1 (xt1 (xh))))))) (xc (xt1 (xl (xt4 (xt4 (xh))))) (xc (xt1 (xl (xt4 (xt4 (xt1 (xh)))))) (xn)))) (fun _ h => xt1 (xr (h))))) (by decide +kernel)
set_option maxRecDepth 20000 in
theorem gX10_above_X10_weight : GoodIn wsX10_above (wsV RX10 133 RX10 yX10_weight wsX10_weight) := goodIn_app (goodIn_sub (xc (xt1 (xl (xt1 (xt1 (xh))))) (xc (xt1 (xl (xt1 (xt1 (xt1 (xh)))))) (xc (xt1 (xl (xt4 (xh)))) (xc (xt1 (xl (xt4 (xt1 (xh))))) (xn))))) (by decide +kernel)) ggX10_above_X10_weight
theorem dX10_above_0 : decode cX10_above 0 = .ok (.iconst 0, 1) := by decide +kernel
theorem dX10_above_1 : decode cX10_above 1 = .ok (.istore_n 3, 1) := by decide +kernel
theorem dX10_above_2 : decode cX10_above 2 = .ok (.iload_n 2, 1) := by decide +kernel
theorem dX10_above_3 : decode cX10_above 3 = .ok (.iconst 1, 1) := by decide +kernel
theorem dX10_above_4 : decode cX10_above 4 = .ok (.iadd, 1) := by decide +kernel
theorem dX10_above_5 : decode cX10_above 5 = .ok (.istore 4, 2) := by decide +kernel
theorem dX10_above_7 : decode cX10_above 7 = .ok (.iload 4, 2) := by decide +kernel
theorem dX10_above_9 : decode cX10_above 9 = .ok (.aload_n 0, 1) := by decide +kernel
theorem dX10_above_10 : decode cX10_above 10 = .ok (.getfield 40, 3) := by decide +kernel
theorem dX10_above_13 : decode cX10_above 13 = .ok (.iload_n 1, 1) := by decide +kernel
theorem dX10_above_14 : decode cX10_above 14 = .ok (.iaload, 1) := by decide +kernel
theorem dX10_above_15 : decode cX10_above 15 = .ok (.if_icmp .ge 28, 3) := by decide +kernel
theorem dX10_above_18 : decode cX10_above 18 = .ok (.iload_n 3, 1) := by decide +kernel
theorem dX10_above_19 : decode cX10_above 19 = .ok (.aload_n 0, 1) := by decide +kernel
theorem dX10_above_20 : decode cX10_above 20 = .ok (.aload_n 0, 1) := by decide +kernel
theorem dX10_above_21 : decode cX10_above 21 = .ok (.getfield 37, 3) := by decide +kernel
theorem dX10_above_24 : decode cX10_above 24 = .ok (.bipush 10, 2) := by decide +kernel
theorem dX10_above_26 : decode cX10_above 26 = .ok (.iload_n 1, 1) := by decide +kernel
theorem dX10_above_27 : decode cX10_above 27 = .ok (.imul, 1) := by decide +kernel
theorem dX10_above_28 : decode cX10_above 28 = .ok (.iload 4, 2) := by decide +kernel
theorem dX10_above_30 : decode cX10_above 30 = .ok (.iadd, 1) := by decide +kernel
theorem dX10_above_31 : decode cX10_above 31 = .ok (.iaload, 1) := by decide +kernel
theorem dX10_above_32 : decode cX10_above 32 = .ok (.invokevirtual 133, 3) := by decide +kernel
theorem dX10_above_35 : decode cX10_above 35 = .ok (.iadd, 1) := by decide +kernel
theorem dX10_above_36 : decode cX10_above 36 = .ok (.istore_n 3, 1) := by decide +kernel
theorem dX10_above_37 : decode cX10_above 37 = .ok (.iinc 4 1, 3) := by decide +kernel
theorem dX10_above_40 : decode cX10_above 40 = .ok (.goto (-33), 3) := by decide +kernel
theorem dX10_above_43 : decode cX10_above 43 = .ok (.iload_n 3, 1) := by decide +kernel
theorem dX10_above_44 : decode cX10_above 44 = .ok (.ireturn, 1) := by decide +kernel
set_option maxRecDepth 20000 in
theorem ggX10_load_X10_noJar : GoodIn wsX10_load wsX10_noJar := goodIn_sub (xc (xt1 (xl (xl (xt4 (xt4 (xt1 (xt1 (xt1 (xh))))))))) (xa (xc (xt1 (xl (xl (xt4 (xt4 (xt4 (xh))))))) (xc (xt1 (xl (xl (xt4 (xt4 (xt4 (xt1 (xh)))))))) (xc (xt1 (xl (xl (xt4 (xt4 (xt4 (xt1 (xt1 (xh))))))))) (xc (xt1 (xl (xl (xt4 (xt4 (xt1 (xt1 (xh)))))))) (xc (xt1 (xl (xl (xt4 (xt4 (xt4 (xt1 (xt1 (xt1 (xh)))))))))) (xn)))))) (fun _ h => xt1 (xr (h))))) (by decide +kernel)
set_option maxRecDepth 20000 in
theorem gX10_load_X10_noJar : GoodIn wsX10_load (wsV RX10 129 RX10 yX10_noJar wsX10_noJar) := goodIn_app (goodIn_sub (xc (xt1 (xl (xl (xt4 (xt1 (xt1 (xt1 (xh)))))))) (xc (xt1 (xl (xl (xt4 (xt4 (xh)))))) (xc (xt1 (xl (xl (xt4 (xt4 (xt1 (xh))))))) (xc (xt1 (xl (xl (xt4 (xt4 (xt1 (xt1 (xh)))))))) (xn))))) (by decide +kernel)) ggX10_load_X10_noJar
set_option maxRecDepth 20000 in
theorem ggX10_load_X10_noHold : GoodIn wsX10_load wsX10_noHold := goodIn_sub (xc (xt1 (xl (xl (xt16 (xt1 (xt1 (xt1 (xh)))))))) (xa (xc (xt1 (xl (xl (xt16 (xt4 (xh)))))) (xc (xt1 (xl (xl (xt4 (xt4 (xt4 (xt1 (xh)))))))) (xc (xt1 (xl (xl (xt4 (xt4 (xt4 (xt1 (xt1 (xh))))))))) (xc (xt1 (xl (xl (xt4 (xt4 (xt1 (xt1 (xh)))))))) (xc (xt1 (xl (xl (xt4 (xt4 (xt4 (xt1 (xt1 (xt1 (xh)))))))))) (xn)))))) (fun _ h => xt1 (xr (h))))) (by decide +kernel)
set_option maxRecDepth 20000 in
theorem gX10_load_X10_noHold : GoodIn wsX10_load (wsV RX10 137 RX10 yX10_noHold wsX10_noHold) := goodIn_app (goodIn_sub (xc (xt1 (xl (xl (xt16 (xh))))) (xc (xt1 (xl (xl (xt16 (xt1 (xh)))))) (xc (xt1 (xl (xl (xt16 (xt1 (xt1 (xh))))))) (xc (xt1 (xl (xl (xt4 (xt4 (xt1 (xt1 (xh)))))))) (xn))))) (by decide +kernel)) ggX10_load_X10_noHold
set_option maxRecDepth 20000 in
theorem ggX10_load_X10_throwsIf : GoodIn wsX10_load wsX10_throwsIf := goodIn_sub (xc (xt1 (xl (xr (xh)))) (xa (xc (xt1 (xl (xl (xh)))) (xn)) (fun _ h => xt1 (xr (h))))) (by decide +kernel)
set_option maxRecDepth 20000 in
theorem gX10_load_X10_throwsIf : GoodIn wsX10_load (wsV RX10 122 RX10 yX10_throwsIf wsX10_throwsIf) := goodIn_app (goodIn_sub (xc (xt1 (xl (xl (xt16 (xt4 (xt1 (xh))))))) (xc (xt1 (xl (xl (xt16 (xt4 (xt1 (xt1 (xh)))))))) (xc (xt1 (xl (xl (xt16 (xt4 (xt1 (xt1 (xt1 (xh))))))))) (xc (xt1 (xl (xl (xt4 (xt4 (xt1 (xt1 (xh)))))))) (xn))))) (by decide +kernel)) ggX10_load_X10_throwsIf
set_option maxRecDepth 20000 in
theorem ggX10_load_X10_above : GoodIn wsX10_load wsX10_above := goodIn_sub (xc (xt1 (xl (xr (xt4 (xh))))) (xa (xc (xt1 (xl (xl (xt1 (xt1 (xh)))))) (xc (xt1 (xl (xl (xt4 (xt1 (xh)))))) (xc (xt1 (xl (xr (xt4 (xt1 (xh)))))) (xc (xt1 (xl (xr (xt4 (xt1 (xt1 (xh))))))) (xc (xt1 (xl (xr (xt4 (xt1 (xt1 (xt1 (xh)))))))) (xc (xt1 (xl (xl (xt4 (xt4 (xt1 (xt1 (xh)))))))) (xc (xt1 (xl (xr (xt4 (xt4 (xh)))))) (xc (xt1 (xl (xr (xt4 (xt4 (xt1 (xh))))))) (xc (xt1 (xl (xl (xt4 (xh))))) (xc (xt1 (xl (xr (xt4 (xt4 (xt1 (xt1 (xh)))))))) (xn))))))))))) (fun _ h => xt1 (xr (h))))) (by decide +kernel)
set_option maxRecDepth 20000 in
theorem gX10_load_X10_above : GoodIn wsX10_load (wsV RX10 141 RX10 yX10_above wsX10_above) := goodIn_app (goodIn_sub (xc (xt1 (xl (xr (xt1 (xh))))) (xc (xt1 (xl (xr (xt1 (xt1 (xh)))))) (xc (xt1 (xl (xr (xt1 (xt1 (xt1 (xh))))))) (xc (xt1 (xl (xl (xt4 (xt4 (xt1 (xt1 (xh)))))))) (xn))))) (by decide +kernel)) ggX10_load_X10_above
set_option maxRecDepth 20000 in
theorem ggX10_load_X10_weight : GoodIn wsX10_load wsX10_weight := goodIn_sub (xc (xt1 (xl (xr (xt4 (xt4 (xh)))))) (xa (xc (xt1 (xl (xr (xt4 (xt4 (xt1 (xh))))))) (xc (xt1 (xl (xl (xt4 (xh))))) (xc (xt1 (xl (xr (xt4 (xt4 (xt1 (xt1 (xh)))))))) (xn)))) (fun _ h => xt1 (xr (h))))) (by decide +kernel)
set_option maxRecDepth 20000 in
theorem gX10_load_X10_weight : GoodIn wsX10_load (wsV RX10 133 RX10 yX10_weight wsX10_weight) := goodIn_app (goodIn_sub (xc (xt1 (xl (xr (xt4 (xt1 (xh)))))) (xc (xt1 (xl (xr (xt4 (xt1 (xt1 (xh))))))) (xc (xt1 (xl (xr (xt4 (xt1 (xt1 (xt1 (xh)))))))) (xc (xt1 (xl (xl (xt4 (xt4 (xt1 (xt1 (xh)))))))) (xn))))) (by decide +kernel)) ggX10_load_X10_weight
theorem kdX10_load_0 : (decide (decode cX10_load 0 = .ok (.aload_n 0, 1)) && (decide (decode cX10_load 1 = .ok (.iconst 0, 1)) && (decide (decode cX10_load 2 = .ok (.putfield 109, 3)) && (decide (decode cX10_load 5 = .ok (.aload_n 0, 1)) && (decide (decode cX10_load 6 = .ok (.aload_n 0, 1)) && (decide (decode cX10_load 7 = .ok (.iload_n 1, 1)) && (decide (decode cX10_load 8 = .ok (.invokevirtual 129, 3)) && (decide (decode cX10_load 11 = .ok (.ifCond .ne 12, 3)) && (decide (decode cX10_load 14 = .ok (.aload_n 0, 1)) && (decide (decode cX10_load 15 = .ok (.iload_n 2, 1)) && (decide (decode cX10_load 16 = .ok (.iload_n 3, 1)) && (decide (decode cX10_load 17 = .ok (.invokevirtual 137, 3)) && (decide (decode cX10_load 20 = .ok (.ifCond .eq 7, 3)) && (decide (decode cX10_load 23 = .ok (.iconst 1, 1)) && (decide (decode cX10_load 24 = .ok (.goto 4, 3)) && (decide (decode cX10_load 27 = .ok (.iconst 0, 1)) && (decide (decode cX10_load 28 = .ok (.iconst 1, 1)) && (decide (decode cX10_load 29 = .ok (.invokevirtual 122, 3)) && (decide (decode cX10_load 32 = .ok (.ifCond .eq 5, 3)) && (decide (decode cX10_load 35 = .ok (.iconst 0, 1)) && (decide (decode cX10_load 36 = .ok (.ireturn, 1)) && (decide (decode cX10_load 37 = .ok (.bipush 6, 2)) && (decide (decode cX10_load 39 = .ok (.iload_n 2, 1)) && (decide (decode cX10_load 40 = .ok (.imul, 1)) && (decide (decode cX10_load 41 = .ok (.iload_n 3, 1)) && (decide (decode cX10_load 42 = .ok (.iadd, 1)) && (decide (decode cX10_load 43 = .ok (.istore 4, 2)) && (decide (decode cX10_load 45 = .ok (.aload_n 0, 1)) && (decide (decode cX10_load 46 = .ok (.getfield 31, 3)) && (decide (decode cX10_load 49 = .ok (.iload_n 1, 1)) && (decide (decode cX10_load 50 = .ok (.iaload, 1)) && (decide (decode cX10_load 51 = .ok (.ifCond .ne 15, 3)))))))))))))))))))))))))))))))))) = true := by decide +kernel
theorem dX10_load_0 : decode cX10_load 0 = .ok (.aload_n 0, 1) := of_decide_eq_true (hb_l (kdX10_load_0))
theorem dX10_load_1 : decode cX10_load 1 = .ok (.iconst 0, 1) := of_decide_eq_true (hb_l (hb_r (kdX10_load_0)))
theorem dX10_load_2 : decode cX10_load 2 = .ok (.putfield 109, 3) := of_decide_eq_true (hb_l (hb_r (hb_r (kdX10_load_0))))
theorem dX10_load_5 : decode cX10_load 5 = .ok (.aload_n 0, 1) := of_decide_eq_true (hb_l (hb_r (hb_r (hb_r (kdX10_load_0)))))
theorem dX10_load_6 : decode cX10_load 6 = .ok (.aload_n 0, 1) := of_decide_eq_true (hb_l (hb_r (hb_r (hb_r (hb_r (kdX10_load_0))))))
theorem dX10_load_7 : decode cX10_load 7 = .ok (.iload_n 1, 1) := of_decide_eq_true (hb_l (hb_r (hb_r (hb_r (hb_r (hb_r (kdX10_load_0)))))))
theorem dX10_load_8 : decode cX10_load 8 = .ok (.invokevirtual 129, 3) := of_decide_eq_true (hb_l (hb_r (hb_r (hb_r (hb_r (hb_r (hb_r (kdX10_load_0))))))))
theorem dX10_load_11 : decode cX10_load 11 = .ok (.ifCond .ne 12, 3) := of_decide_eq_true (hb_l (hb_r (hb_r (hb_r (hb_r (hb_r (hb_r (hb_r (kdX10_load_0)))))))))
theorem dX10_load_14 : decode cX10_load 14 = .ok (.aload_n 0, 1) := of_decide_eq_true (hb_l (hb_r (hb_r (hb_r (hb_r (hb_r (hb_r (hb_r (hb_r (kdX10_load_0))))))))))
theorem dX10_load_15 : decode cX10_load 15 = .ok (.iload_n 2, 1) := of_decide_eq_true (hb_l (hb_r (hb_r (hb_r (hb_r (hb_r (hb_r (hb_r (hb_r (hb_r (kdX10_load_0)))))))))))
theorem dX10_load_16 : decode cX10_load 16 = .ok (.iload_n 3, 1) := of_decide_eq_true (hb_l (hb_r (hb_r (hb_r (hb_r (hb_r (hb_r (hb_r (hb_r (hb_r (hb_r (kdX10_load_0))))))))))))
theorem dX10_load_17 : decode cX10_load 17 = .ok (.invokevirtual 137, 3) := of_decide_eq_true (hb_l (hb_r (hb_r (hb_r (hb_r (hb_r (hb_r (hb_r (hb_r (hb_r (hb_r (hb_r (kdX10_load_0)))))))))))))
theorem dX10_load_20 : decode cX10_load 20 = .ok (.ifCond .eq 7, 3) := of_decide_eq_true (hb_l (hb_r (hb_r (hb_r (hb_r (hb_r (hb_r (hb_r (hb_r (hb_r (hb_r (hb_r (hb_r (kdX10_load_0))))))))))))))
theorem dX10_load_23 : decode cX10_load 23 = .ok (.iconst 1, 1) := of_decide_eq_true (hb_l (hb_r (hb_r (hb_r (hb_r (hb_r (hb_r (hb_r (hb_r (hb_r (hb_r (hb_r (hb_r (hb_r (kdX10_load_0)))))))))))))))
theorem dX10_load_24 : decode cX10_load 24 = .ok (.goto 4, 3) := of_decide_eq_true (hb_l (hb_r (hb_r (hb_r (hb_r (hb_r (hb_r (hb_r (hb_r (hb_r (hb_r (hb_r (hb_r (hb_r (hb_r (kdX10_load_0))))))))))))))))
theorem dX10_load_27 : decode cX10_load 27 = .ok (.iconst 0, 1) := of_decide_eq_true (hb_l (hb_r (hb_r (hb_r (hb_r (hb_r (hb_r (hb_r (hb_r (hb_r (hb_r (hb_r (hb_r (hb_r (hb_r (hb_r (kdX10_load_0)))))))))))))))))
theorem dX10_load_28 : decode cX10_load 28 = .ok (.iconst 1, 1) := of_decide_eq_true (hb_l (hb_r (hb_r (hb_r (hb_r (hb_r (hb_r (hb_r (hb_r (hb_r (hb_r (hb_r (hb_r (hb_r (hb_r (hb_r (hb_r (kdX10_load_0))))))))))))))))))
theorem dX10_load_29 : decode cX10_load 29 = .ok (.invokevirtual 122, 3) := of_decide_eq_true (hb_l (hb_r (hb_r (hb_r (hb_r (hb_r (hb_r (hb_r (hb_r (hb_r (hb_r (hb_r (hb_r (hb_r (hb_r (hb_r (hb_r (hb_r (kdX10_load_0)))))))))))))))))))
theorem dX10_load_32 : decode cX10_load 32 = .ok (.ifCond .eq 5, 3) := of_decide_eq_true (hb_l (hb_r (hb_r (hb_r (hb_r (hb_r (hb_r (hb_r (hb_r (hb_r (hb_r (hb_r (hb_r (hb_r (hb_r (hb_r (hb_r (hb_r (hb_r (kdX10_load_0))))))))))))))))))))
theorem dX10_load_35 : decode cX10_load 35 = .ok (.iconst 0, 1) := of_decide_eq_true (hb_l (hb_r (hb_r (hb_r (hb_r (hb_r (hb_r (hb_r (hb_r (hb_r (hb_r (hb_r (hb_r (hb_r (hb_r (hb_r (hb_r (hb_r (hb_r (hb_r (kdX10_load_0)))))))))))))))))))))
theorem dX10_load_36 : decode cX10_load 36 = .ok (.ireturn, 1) := of_decide_eq_true (hb_l (hb_r (hb_r (hb_r (hb_r (hb_r (hb_r (hb_r (hb_r (hb_r (hb_r (hb_r (hb_r (hb_r (hb_r (hb_r (hb_r (hb_r (hb_r (hb_r (hb_r (kdX10_load_0))))))))))))))))))))))
theorem dX10_load_37 : decode cX10_load 37 = .ok (.bipush 6, 2) := of_decide_eq_true (hb_l (hb_r (hb_r (hb_r (hb_r (hb_r (hb_r (hb_r (hb_r (hb_r (hb_r (hb_r (hb_r (hb_r (hb_r (hb_r (hb_r (hb_r (hb_r (hb_r (hb_r (hb_r (kdX10_load_0)))))))))))))))))))))))
theorem dX10_load_39 : decode cX10_load 39 = .ok (.iload_n 2, 1) := of_decide_eq_true (hb_l (hb_r (hb_r (hb_r (hb_r (hb_r (hb_r (hb_r (hb_r (hb_r (hb_r (hb_r (hb_r (hb_r (hb_r (hb_r (hb_r (hb_r (hb_r (hb_r (hb_r (hb_r (hb_r (kdX10_load_0))))))))))))))))))))))))
theorem dX10_load_40 : decode cX10_load 40 = .ok (.imul, 1) := of_decide_eq_true (hb_l (hb_r (hb_r (hb_r (hb_r (hb_r (hb_r (hb_r (hb_r (hb_r (hb_r (hb_r (hb_r (hb_r (hb_r (hb_r (hb_r (hb_r (hb_r (hb_r (hb_r (hb_r (hb_r (hb_r (kdX10_load_0)))))))))))))))))))))))))
theorem dX10_load_41 : decode cX10_load 41 = .ok (.iload_n 3, 1) := of_decide_eq_true (hb_l (hb_r (hb_r (hb_r (hb_r (hb_r (hb_r (hb_r (hb_r (hb_r (hb_r (hb_r (hb_r (hb_r (hb_r (hb_r (hb_r (hb_r (hb_r (hb_r (hb_r (hb_r (hb_r (hb_r (hb_r (kdX10_load_0))))))))))))))))))))))))))
theorem dX10_load_42 : decode cX10_load 42 = .ok (.iadd, 1) := of_decide_eq_true (hb_l (hb_r (hb_r (hb_r (hb_r (hb_r (hb_r (hb_r (hb_r (hb_r (hb_r (hb_r (hb_r (hb_r (hb_r (hb_r (hb_r (hb_r (hb_r (hb_r (hb_r (hb_r (hb_r (hb_r (hb_r (hb_r (kdX10_load_0)))))))))))))))))))))))))))
theorem dX10_load_43 : decode cX10_load 43 = .ok (.istore 4, 2) := of_decide_eq_true (hb_l (hb_r (hb_r (hb_r (hb_r (hb_r (hb_r (hb_r (hb_r (hb_r (hb_r (hb_r (hb_r (hb_r (hb_r (hb_r (hb_r (hb_r (hb_r (hb_r (hb_r (hb_r (hb_r (hb_r (hb_r (hb_r (hb_r (kdX10_load_0))))))))))))))))))))))))))))
theorem dX10_load_45 : decode cX10_load 45 = .ok (.aload_n 0, 1) := of_decide_eq_true (hb_l (hb_r (hb_r (hb_r (hb_r (hb_r (hb_r (hb_r (hb_r (hb_r (hb_r (hb_r (hb_r (hb_r (hb_r (hb_r (hb_r (hb_r (hb_r (hb_r (hb_r (hb_r (hb_r (hb_r (hb_r (hb_r (hb_r (hb_r (kdX10_load_0)))))))))))))))))))))))))))))
theorem dX10_load_46 : decode cX10_load 46 = .ok (.getfield 31, 3) := of_decide_eq_true (hb_l (hb_r (hb_r (hb_r (hb_r (hb_r (hb_r (hb_r (hb_r (hb_r (hb_r (hb_r (hb_r (hb_r (hb_r (hb_r (hb_r (hb_r (hb_r (hb_r (hb_r (hb_r (hb_r (hb_r (hb_r (hb_r (hb_r (hb_r (hb_r (kdX10_load_0))))))))))))))))))))))))))))))
theorem dX10_load_49 : decode cX10_load 49 = .ok (.iload_n 1, 1) := of_decide_eq_true (hb_l (hb_r (hb_r (hb_r (hb_r (hb_r (hb_r (hb_r (hb_r (hb_r (hb_r (hb_r (hb_r (hb_r (hb_r (hb_r (hb_r (hb_r (hb_r (hb_r (hb_r (hb_r (hb_r (hb_r (hb_r (hb_r (hb_r (hb_r (hb_r (hb_r (kdX10_load_0)))))))))))))))))))))))))))))))
theorem dX10_load_50 : decode cX10_load 50 = .ok (.iaload, 1) := of_decide_eq_true (hb_l (hb_r (hb_r (hb_r (hb_r (hb_r (hb_r (hb_r (hb_r (hb_r (hb_r (hb_r (hb_r (hb_r (hb_r (hb_r (hb_r (hb_r (hb_r (hb_r (hb_r (hb_r (hb_r (hb_r (hb_r (hb_r (hb_r (hb_r (hb_r (hb_r (hb_r (kdX10_load_0))))))))))))))))))))))))))))))))
theorem dX10_load_51 : decode cX10_load 51 = .ok (.ifCond .ne 15, 3) := of_decide_eq_true (hb_r (hb_r (hb_r (hb_r (hb_r (hb_r (hb_r (hb_r (hb_r (hb_r (hb_r (hb_r (hb_r (hb_r (hb_r (hb_r (hb_r (hb_r (hb_r (hb_r (hb_r (hb_r (hb_r (hb_r (hb_r (hb_r (hb_r (hb_r (hb_r (hb_r (hb_r (kdX10_load_0))))))))))))))))))))))))))))))))
theorem kdX10_load_54 : (decide (decode cX10_load 54 = .ok (.aload_n 0, 1)) && (decide (decode cX10_load 55 = .ok (.getfield 40, 3)) && (decide (decode cX10_load 58 = .ok (.iload 4, 2)) && (decide (decode cX10_load 60 = .ok (.iaload, 1)) && (decide (decode cX10_load 61 = .ok (.bipush 10, 2)) && (decide (decode cX10_load 63 = .ok (.if_icmp .ne 5, 3)) && (decide (decode cX10_load 66 = .ok (.iconst 0, 1)) && (decide (decode cX10_load 67 = .ok (.ireturn, 1)) && (decide (decode cX10_load 68 = .ok (.iconst 0, 1)) && (decide (decode cX10_load 69 = .ok (.istore 5, 2)) && (decide (decode cX10_load 71 = .ok (.iload 5, 2)) && (decide (decode cX10_load 73 = .ok (.aload_n 0, 1)) && (decide (decode cX10_load 74 = .ok (.getfield 40, 3)) && (decide (decode cX10_load 77 = .ok (.iload 4, 2)) && (decide (decode cX10_load 79 = .ok (.iaload, 1)) && (decide (decode cX10_load 80 = .ok (.if_icmp .ge 51, 3)) && (decide (decode cX10_load 83 = .ok (.aload_n 0, 1)) && (decide (decode cX10_load 84 = .ok (.iload 4, 2)) && (decide (decode cX10_load 86 = .ok (.iload 5, 2)) && (decide (decode cX10_load 88 = .ok (.invokevirtual 141, 3)) && (decide (decode cX10_load 91 = .ok (.aload_n 0, 1)) && (decide (decode cX10_load 92 = .ok (.iload_n 1, 1)) && (decide (decode cX10_load 93 = .ok (.invokevirtual 133, 3)) && (decide (decode cX10_load 96 = .ok (.iadd, 1)) && (decide (decode cX10_load 97 = .ok (.aload_n 0, 1)) && (decide (decode cX10_load 98 = .ok (.getfield 16, 3)) && (decide (decode cX10_load 101 = .ok (.aload_n 0, 1)) && (decide (decode cX10_load 102 = .ok (.getfield 19, 3)) && (decide (decode cX10_load 105 = .ok (.aload_n 0, 1)) && (decide (decode cX10_load 106 = .ok (.getfield 37, 3)) && (decide (decode cX10_load 109 = .ok (.bipush 10, 2)) && (decide (decode cX10_load 111 = .ok (.iload 4, 2)))))))))))))))))))))))))))))))))) = true := by decide +kernel
theorem dX10_load_54 : decode cX10_load 54 = .ok (.aload_n 0, 1) := of_decide_eq_true (hb_l (kdX10_load_54))
theorem dX10_load_55 : decode cX10_load 55 = .ok (.getfield 40, 3) := of_decide_eq_true (hb_l (hb_r (kdX10_load_54)))
theorem dX10_load_58 : decode cX10_load 58 = .ok (.iload 4, 2) := of_decide_eq_true (hb_l (hb_r (hb_r (kdX10_load_54))))
theorem dX10_load_60 : decode cX10_load 60 = .ok (.iaload, 1) := of_decide_eq_true (hb_l (hb_r (hb_r (hb_r (kdX10_load_54)))))
theorem dX10_load_61 : decode cX10_load 61 = .ok (.bipush 10, 2) := of_decide_eq_true (hb_l (hb_r (hb_r (hb_r (hb_r (kdX10_load_54))))))
theorem dX10_load_63 : decode cX10_load 63 = .ok (.if_icmp .ne 5, 3) := of_decide_eq_true (hb_l (hb_r (hb_r (hb_r (hb_r (hb_r (kdX10_load_54)))))))
theorem dX10_load_66 : decode cX10_load 66 = .ok (.iconst 0, 1) := of_decide_eq_true (hb_l (hb_r (hb_r (hb_r (hb_r (hb_r (hb_r (kdX10_load_54))))))))
theorem dX10_load_67 : decode cX10_load 67 = .ok (.ireturn, 1) := of_decide_eq_true (hb_l (hb_r (hb_r (hb_r (hb_r (hb_r (hb_r (hb_r (kdX10_load_54)))))))))
theorem dX10_load_68 : decode cX10_load 68 = .ok (.iconst 0, 1) := of_decide_eq_true (hb_l (hb_r (hb_r (hb_r (hb_r (hb_r (hb_r (hb_r (hb_r (kdX10_load_54))))))))))
theorem dX10_load_69 : decode cX10_load 69 = .ok (.istore 5, 2) := of_decide_eq_true (hb_l (hb_r (hb_r (hb_r (hb_r (hb_r (hb_r (hb_r (hb_r (hb_r (kdX10_load_54)))))))))))
theorem dX10_load_71 : decode cX10_load 71 = .ok (.iload 5, 2) := of_decide_eq_true (hb_l (hb_r (hb_r (hb_r (hb_r (hb_r (hb_r (hb_r (hb_r (hb_r (hb_r (kdX10_load_54))))))))))))
theorem dX10_load_73 : decode cX10_load 73 = .ok (.aload_n 0, 1) := of_decide_eq_true (hb_l (hb_r (hb_r (hb_r (hb_r (hb_r (hb_r (hb_r (hb_r (hb_r (hb_r (hb_r (kdX10_load_54)))))))))))))
theorem dX10_load_74 : decode cX10_load 74 = .ok (.getfield 40, 3) := of_decide_eq_true (hb_l (hb_r (hb_r (hb_r (hb_r (hb_r (hb_r (hb_r (hb_r (hb_r (hb_r (hb_r (hb_r (kdX10_load_54))))))))))))))
theorem dX10_load_77 : decode cX10_load 77 = .ok (.iload 4, 2) := of_decide_eq_true (hb_l (hb_r (hb_r (hb_r (hb_r (hb_r (hb_r (hb_r (hb_r (hb_r (hb_r (hb_r (hb_r (hb_r (kdX10_load_54)))))))))))))))
theorem dX10_load_79 : decode cX10_load 79 = .ok (.iaload, 1) := of_decide_eq_true (hb_l (hb_r (hb_r (hb_r (hb_r (hb_r (hb_r (hb_r (hb_r (hb_r (hb_r (hb_r (hb_r (hb_r (hb_r (kdX10_load_54))))))))))))))))
theorem dX10_load_80 : decode cX10_load 80 = .ok (.if_icmp .ge 51, 3) := of_decide_eq_true (hb_l (hb_r (hb_r (hb_r (hb_r (hb_r (hb_r (hb_r (hb_r (hb_r (hb_r (hb_r (hb_r (hb_r (hb_r (hb_r (kdX10_load_54)))))))))))))))))
theorem dX10_load_83 : decode cX10_load 83 = .ok (.aload_n 0, 1) := of_decide_eq_true (hb_l (hb_r (hb_r (hb_r (hb_r (hb_r (hb_r (hb_r (hb_r (hb_r (hb_r (hb_r (hb_r (hb_r (hb_r (hb_r (hb_r (kdX10_load_54))))))))))))))))))
theorem dX10_load_84 : decode cX10_load 84 = .ok (.iload 4, 2) := of_decide_eq_true (hb_l (hb_r (hb_r (hb_r (hb_r (hb_r (hb_r (hb_r (hb_r (hb_r (hb_r (hb_r (hb_r (hb_r (hb_r (hb_r (hb_r (hb_r (kdX10_load_54)))))))))))))))))))
theorem dX10_load_86 : decode cX10_load 86 = .ok (.iload 5, 2) := of_decide_eq_true (hb_l (hb_r (hb_r (hb_r (hb_r (hb_r (hb_r (hb_r (hb_r (hb_r (hb_r (hb_r (hb_r (hb_r (hb_r (hb_r (hb_r (hb_r (hb_r (kdX10_load_54))))))))))))))))))))
theorem dX10_load_88 : decode cX10_load 88 = .ok (.invokevirtual 141, 3) := of_decide_eq_true (hb_l (hb_r (hb_r (hb_r (hb_r (hb_r (hb_r (hb_r (hb_r (hb_r (hb_r (hb_r (hb_r (hb_r (hb_r (hb_r (hb_r (hb_r (hb_r (hb_r (kdX10_load_54)))))))))))))))))))))
theorem dX10_load_91 : decode cX10_load 91 = .ok (.aload_n 0, 1) := of_decide_eq_true (hb_l (hb_r (hb_r (hb_r (hb_r (hb_r (hb_r (hb_r (hb_r (hb_r (hb_r (hb_r (hb_r (hb_r (hb_r (hb_r (hb_r (hb_r (hb_r (hb_r (hb_r (kdX10_load_54))))))))))))))))))))))
theorem dX10_load_92 : decode cX10_load 92 = .ok (.iload_n 1, 1) := of_decide_eq_true (hb_l (hb_r (hb_r (hb_r (hb_r (hb_r (hb_r (hb_r (hb_r (hb_r (hb_r (hb_r (hb_r (hb_r (hb_r (hb_r (hb_r (hb_r (hb_r (hb_r (hb_r (hb_r (kdX10_load_54)))))))))))))))))))))))
theorem dX10_load_93 : decode cX10_load 93 = .ok (.invokevirtual 133, 3) := of_decide_eq_true (hb_l (hb_r (hb_r (hb_r (hb_r (hb_r (hb_r (hb_r (hb_r (hb_r (hb_r (hb_r (hb_r (hb_r (hb_r (hb_r (hb_r (hb_r (hb_r (hb_r (hb_r (hb_r (hb_r (kdX10_load_54))))))))))))))))))))))))
theorem dX10_load_96 : decode cX10_load 96 = .ok (.iadd, 1) := of_decide_eq_true (hb_l (hb_r (hb_r (hb_r (hb_r (hb_r (hb_r (hb_r (hb_r (hb_r (hb_r (hb_r (hb_r (hb_r (hb_r (hb_r (hb_r (hb_r (hb_r (hb_r (hb_r (hb_r (hb_r (hb_r (kdX10_load_54)))))))))))))))))))))))))
theorem dX10_load_97 : decode cX10_load 97 = .ok (.aload_n 0, 1) := of_decide_eq_true (hb_l (hb_r (hb_r (hb_r (hb_r (hb_r (hb_r (hb_r (hb_r (hb_r (hb_r (hb_r (hb_r (hb_r (hb_r (hb_r (hb_r (hb_r (hb_r (hb_r (hb_r (hb_r (hb_r (hb_r (hb_r (kdX10_load_54))))))))))))))))))))))))))
theorem dX10_load_98 : decode cX10_load 98 = .ok (.getfield 16, 3) := of_decide_eq_true (hb_l (hb_r (hb_r (hb_r (hb_r (hb_r (hb_r (hb_r (hb_r (hb_r (hb_r (hb_r (hb_r (hb_r (hb_r (hb_r (hb_r (hb_r (hb_r (hb_r (hb_r (hb_r (hb_r (hb_r (hb_r (hb_r (kdX10_load_54)))))))))))))))))))))))))))
theorem dX10_load_101 : decode cX10_load 101 = .ok (.aload_n 0, 1) := of_decide_eq_true (hb_l (hb_r (hb_r (hb_r (hb_r (hb_r (hb_r (hb_r (hb_r (hb_r (hb_r (hb_r (hb_r (hb_r (hb_r (hb_r (hb_r (hb_r (hb_r (hb_r (hb_r (hb_r (hb_r (hb_r (hb_r (hb_r (hb_r (kdX10_load_54))))))))))))))))))))))))))))
theorem dX10_load_102 : decode cX10_load 102 = .ok (.getfield 19, 3) := of_decide_eq_true (hb_l (hb_r (hb_r (hb_r (hb_r (hb_r (hb_r (hb_r (hb_r (hb_r (hb_r (hb_r (hb_r (hb_r (hb_r (hb_r (hb_r (hb_r (hb_r (hb_r (hb_r (hb_r (hb_r (hb_r (hb_r (hb_r (hb_r (hb_r (kdX10_load_54)))))))))))))))))))))))))))))
theorem dX10_load_105 : decode cX10_load 105 = .ok (.aload_n 0, 1) := of_decide_eq_true (hb_l (hb_r (hb_r (hb_r (hb_r (hb_r (hb_r (hb_r (hb_r (hb_r (hb_r (hb_r (hb_r (hb_r (hb_r (hb_r (hb_r (hb_r (hb_r (hb_r (hb_r (hb_r (hb_r (hb_r (hb_r (hb_r (hb_r (hb_r (hb_r (kdX10_load_54))))))))))))))))))))))))))))))
theorem dX10_load_106 : decode cX10_load 106 = .ok (.getfield 37, 3) := of_decide_eq_true (hb_l (hb_r (hb_r (hb_r (hb_r (hb_r (hb_r (hb_r (hb_r (hb_r (hb_r (hb_r (hb_r (hb_r (hb_r (hb_r (hb_r (hb_r (hb_r (hb_r (hb_r (hb_r (hb_r (hb_r (hb_r (hb_r (hb_r (hb_r (hb_r (hb_r (kdX10_load_54)))))))))))))))))))))))))))))))
theorem dX10_load_109 : decode cX10_load 109 = .ok (.bipush 10, 2) := of_decide_eq_true (hb_l (hb_r (hb_r (hb_r (hb_r (hb_r (hb_r (hb_r (hb_r (hb_r (hb_r (hb_r (hb_r (hb_r (hb_r (hb_r (hb_r (hb_r (hb_r (hb_r (hb_r (hb_r (hb_r (hb_r (hb_r (hb_r (hb_r (hb_r (hb_r (hb_r (hb_r (kdX10_load_54))))))))))))))))))))))))))))))))
theorem dX10_load_111 : decode cX10_load 111 = .ok (.iload 4, 2) := of_decide_eq_true (hb_r (hb_r (hb_r (hb_r (hb_r (hb_r (hb_r (hb_r (hb_r (hb_r (hb_r (hb_r (hb_r (hb_r (hb_r (hb_r (hb_r (hb_r (hb_r (hb_r (hb_r (hb_r (hb_r (hb_r (hb_r (hb_r (hb_r (hb_r (hb_r (hb_r (hb_r (kdX10_load_54))))))))))))))))))))))))))))))))
theorem kdX10_load_113 : (decide (decode cX10_load 113 = .ok (.imul, 1)) && (decide (decode cX10_load 114 = .ok (.iload 5, 2)) && (decide (decode cX10_load 116 = .ok (.iadd, 1)) && (decide (decode cX10_load 117 = .ok (.iaload, 1)) && (decide (decode cX10_load 118 = .ok (.iaload, 1)) && (decide (decode cX10_load 119 = .ok (.iaload, 1)) && (decide (decode cX10_load 120 = .ok (.if_icmp .le 5, 3)) && (decide (decode cX10_load 123 = .ok (.iconst 0, 1)) && (decide (decode cX10_load 124 = .ok (.ireturn, 1)) && (decide (decode cX10_load 125 = .ok (.iinc 5 1, 3)) && (decide (decode cX10_load 128 = .ok (.goto (-57), 3)) && (decide (decode cX10_load 131 = .ok (.aload_n 0, 1)) && (decide (decode cX10_load 132 = .ok (.getfield 37, 3)) && (decide (decode cX10_load 135 = .ok (.bipush 10, 2)) && (decide (decode cX10_load 137 = .ok (.iload 4, 2)) && (decide (decode cX10_load 139 = .ok (.imul, 1)) && (decide (decode cX10_load 140 = .ok (.aload_n 0, 1)) && (decide (decode cX10_load 141 = .ok (.getfield 40, 3)) && (decide (decode cX10_load 144 = .ok (.iload 4, 2)) && (decide (decode cX10_load 146 = .ok (.iaload, 1)) && (decide (decode cX10_load 147 = .ok (.iadd, 1)) && (decide (decode cX10_load 148 = .ok (.iload_n 1, 1)) && (decide (decode cX10_load 149 = .ok (.iastore, 1)) && (decide (decode cX10_load 150 = .ok (.aload_n 0, 1)) && (decide (decode cX10_load 151 = .ok (.getfield 40, 3)) && (decide (decode cX10_load 154 = .ok (.iload 4, 2)) && (decide (decode cX10_load 156 = .ok (.dup2, 1)) && (decide (decode cX10_load 157 = .ok (.iaload, 1)) && (decide (decode cX10_load 158 = .ok (.iconst 1, 1)) && (decide (decode cX10_load 159 = .ok (.iadd, 1)) && (decide (decode cX10_load 160 = .ok (.iastore, 1)) && (decide (decode cX10_load 161 = .ok (.aload_n 0, 1)))))))))))))))))))))))))))))))))) = true := by decide +kernel
theorem dX10_load_113 : decode cX10_load 113 = .ok (.imul, 1) := of_decide_eq_true (hb_l (kdX10_load_113))
theorem dX10_load_114 : decode cX10_load 114 = .ok (.iload 5, 2) := of_decide_eq_true (hb_l (hb_r (kdX10_load_113)))
theorem dX10_load_116 : decode cX10_load 116 = .ok (.iadd, 1) := of_decide_eq_true (hb_l (hb_r (hb_r (kdX10_load_113))))
theorem dX10_load_117 : decode cX10_load 117 = .ok (.iaload, 1) := of_decide_eq_true (hb_l (hb_r (hb_r (hb_r (kdX10_load_113)))))
theorem dX10_load_118 : decode cX10_load 118 = .ok (.iaload, 1) := of_decide_eq_true (hb_l (hb_r (hb_r (hb_r (hb_r (kdX10_load_113))))))
theorem dX10_load_119 : decode cX10_load 119 = .ok (.iaload, 1) := of_decide_eq_true (hb_l (hb_r (hb_r (hb_r (hb_r (hb_r (kdX10_load_113)))))))
theorem dX10_load_120 : decode cX10_load 120 = .ok (.if_icmp .le 5, 3) := of_decide_eq_true (hb_l (hb_r (hb_r (hb_r (hb_r (hb_r (hb_r (kdX10_load_113))))))))
theorem dX10_load_123 : decode cX10_load 123 = .ok (.iconst 0, 1) := of_decide_eq_true (hb_l (hb_r (hb_r (hb_r (hb_r (hb_r (hb_r (hb_r (kdX10_load_113)))))))))
theorem dX10_load_124 : decode cX10_load 124 = .ok (.ireturn, 1) := of_decide_eq_true (hb_l (hb_r (hb_r (hb_r (hb_r (hb_r (hb_r (hb_r (hb_r (kdX10_load_113))))))))))
theorem dX10_load_125 : decode cX10_load 125 = .ok (.iinc 5 1, 3) := of_decide_eq_true (hb_l (hb_r (hb_r (hb_r (hb_r (hb_r (hb_r (hb_r (hb_r (hb_r (kdX10_load_113)))))))))))
theorem dX10_load_128 : decode cX10_load 128 = .ok (.goto (-57), 3) := of_decide_eq_true (hb_l (hb_r (hb_r (hb_r (hb_r (hb_r (hb_r (hb_r (hb_r (hb_r (hb_r (kdX10_load_113))))))))))))
theorem dX10_load_131 : decode cX10_load 131 = .ok (.aload_n 0, 1) := of_decide_eq_true (hb_l (hb_r (hb_r (hb_r (hb_r (hb_r (hb_r (hb_r (hb_r (hb_r (hb_r (hb_r (kdX10_load_113)))))))))))))
theorem dX10_load_132 : decode cX10_load 132 = .ok (.getfield 37, 3) := of_decide_eq_true (hb_l (hb_r (hb_r (hb_r (hb_r (hb_r (hb_r (hb_r (hb_r (hb_r (hb_r (hb_r (hb_r (kdX10_load_113))))))))))))))
theorem dX10_load_135 : decode cX10_load 135 = .ok (.bipush 10, 2) := of_decide_eq_true (hb_l (hb_r (hb_r (hb_r (hb_r (hb_r (hb_r (hb_r (hb_r (hb_r (hb_r (hb_r (hb_r (hb_r (kdX10_load_113)))))))))))))))
theorem dX10_load_137 : decode cX10_load 137 = .ok (.iload 4, 2) := of_decide_eq_true (hb_l (hb_r (hb_r (hb_r (hb_r (hb_r (hb_r (hb_r (hb_r (hb_r (hb_r (hb_r (hb_r (hb_r (hb_r (kdX10_load_113))))))))))))))))
theorem dX10_load_139 : decode cX10_load 139 = .ok (.imul, 1) := of_decide_eq_true (hb_l (hb_r (hb_r (hb_r (hb_r (hb_r (hb_r (hb_r (hb_r (hb_r (hb_r (hb_r (hb_r (hb_r (hb_r (hb_r (kdX10_load_113)))))))))))))))))
theorem dX10_load_140 : decode cX10_load 140 = .ok (.aload_n 0, 1) := of_decide_eq_true (hb_l (hb_r (hb_r (hb_r (hb_r (hb_r (hb_r (hb_r (hb_r (hb_r (hb_r (hb_r (hb_r (hb_r (hb_r (hb_r (hb_r (kdX10_load_113))))))))))))))))))
theorem dX10_load_141 : decode cX10_load 141 = .ok (.getfield 40, 3) := of_decide_eq_true (hb_l (hb_r (hb_r (hb_r (hb_r (hb_r (hb_r (hb_r (hb_r (hb_r (hb_r (hb_r (hb_r (hb_r (hb_r (hb_r (hb_r (hb_r (kdX10_load_113)))))))))))))))))))
theorem dX10_load_144 : decode cX10_load 144 = .ok (.iload 4, 2) := of_decide_eq_true (hb_l (hb_r (hb_r (hb_r (hb_r (hb_r (hb_r (hb_r (hb_r (hb_r (hb_r (hb_r (hb_r (hb_r (hb_r (hb_r (hb_r (hb_r (hb_r (kdX10_load_113))))))))))))))))))))
theorem dX10_load_146 : decode cX10_load 146 = .ok (.iaload, 1) := of_decide_eq_true (hb_l (hb_r (hb_r (hb_r (hb_r (hb_r (hb_r (hb_r (hb_r (hb_r (hb_r (hb_r (hb_r (hb_r (hb_r (hb_r (hb_r (hb_r (hb_r (hb_r (kdX10_load_113)))))))))))))))))))))
theorem dX10_load_147 : decode cX10_load 147 = .ok (.iadd, 1) := of_decide_eq_true (hb_l (hb_r (hb_r (hb_r (hb_r (hb_r (hb_r (hb_r (hb_r (hb_r (hb_r (hb_r (hb_r (hb_r (hb_r (hb_r (hb_r (hb_r (hb_r (hb_r (hb_r (kdX10_load_113))))))))))))))))))))))
theorem dX10_load_148 : decode cX10_load 148 = .ok (.iload_n 1, 1) := of_decide_eq_true (hb_l (hb_r (hb_r (hb_r (hb_r (hb_r (hb_r (hb_r (hb_r (hb_r (hb_r (hb_r (hb_r (hb_r (hb_r (hb_r (hb_r (hb_r (hb_r (hb_r (hb_r (hb_r (kdX10_load_113)))))))))))))))))))))))
theorem dX10_load_149 : decode cX10_load 149 = .ok (.iastore, 1) := of_decide_eq_true (hb_l (hb_r (hb_r (hb_r (hb_r (hb_r (hb_r (hb_r (hb_r (hb_r (hb_r (hb_r (hb_r (hb_r (hb_r (hb_r (hb_r (hb_r (hb_r (hb_r (hb_r (hb_r (hb_r (kdX10_load_113))))))))))))))))))))))))
theorem dX10_load_150 : decode cX10_load 150 = .ok (.aload_n 0, 1) := of_decide_eq_true (hb_l (hb_r (hb_r (hb_r (hb_r (hb_r (hb_r (hb_r (hb_r (hb_r (hb_r (hb_r (hb_r (hb_r (hb_r (hb_r (hb_r (hb_r (hb_r (hb_r (hb_r (hb_r (hb_r (hb_r (kdX10_load_113)))))))))))))))))))))))))
theorem dX10_load_151 : decode cX10_load 151 = .ok (.getfield 40, 3) := of_decide_eq_true (hb_l (hb_r (hb_r (hb_r (hb_r (hb_r (hb_r (hb_r (hb_r (hb_r (hb_r (hb_r (hb_r (hb_r (hb_r (hb_r (hb_r (hb_r (hb_r (hb_r (hb_r (hb_r (hb_r (hb_r (hb_r (kdX10_load_113))))))))))))))))))))))))))
theorem dX10_load_154 : decode cX10_load 154 = .ok (.iload 4, 2) := of_decide_eq_true (hb_l (hb_r (hb_r (hb_r (hb_r (hb_r (hb_r (hb_r (hb_r (hb_r (hb_r (hb_r (hb_r (hb_r (hb_r (hb_r (hb_r (hb_r (hb_r (hb_r (hb_r (hb_r (hb_r (hb_r (hb_r (hb_r (kdX10_load_113)))))))))))))))))))))))))))
theorem dX10_load_156 : decode cX10_load 156 = .ok (.dup2, 1) := of_decide_eq_true (hb_l (hb_r (hb_r (hb_r (hb_r (hb_r (hb_r (hb_r (hb_r (hb_r (hb_r (hb_r (hb_r (hb_r (hb_r (hb_r (hb_r (hb_r (hb_r (hb_r (hb_r (hb_r (hb_r (hb_r (hb_r (hb_r (hb_r (kdX10_load_113))))))))))))))))))))))))))))
theorem dX10_load_157 : decode cX10_load 157 = .ok (.iaload, 1) := of_decide_eq_true (hb_l (hb_r (hb_r (hb_r (hb_r (hb_r (hb_r (hb_r (hb_r (hb_r (hb_r (hb_r (hb_r (hb_r (hb_r (hb_r (hb_r (hb_r (hb_r (hb_r (hb_r (hb_r (hb_r (hb_r (hb_r (hb_r (hb_r (hb_r (kdX10_load_113)))))))))))))))))))))))))))))
theorem dX10_load_158 : decode cX10_load 158 = .ok (.iconst 1, 1) := of_decide_eq_true (hb_l (hb_r (hb_r (hb_r (hb_r (hb_r (hb_r (hb_r (hb_r (hb_r (hb_r (hb_r (hb_r (hb_r (hb_r (hb_r (hb_r (hb_r (hb_r (hb_r (hb_r (hb_r (hb_r (hb_r (hb_r (hb_r (hb_r (hb_r (hb_r (kdX10_load_113))))))))))))))))))))))))))))))
theorem dX10_load_159 : decode cX10_load 159 = .ok (.iadd, 1) := of_decide_eq_true (hb_l (hb_r (hb_r (hb_r (hb_r (hb_r (hb_r (hb_r (hb_r (hb_r (hb_r (hb_r (hb_r (hb_r (hb_r (hb_r (hb_r (hb_r (hb_r (hb_r (hb_r (hb_r (hb_r (hb_r (hb_r (hb_r (hb_r (hb_r (hb_r (hb_r (kdX10_load_113)))))))))))))))))))))))))))))))
theorem dX10_load_160 : decode cX10_load 160 = .ok (.iastore, 1) := of_decide_eq_true (hb_l (hb_r (hb_r (hb_r (hb_r (hb_r (hb_r (hb_r (hb_r (hb_r (hb_r (hb_r (hb_r (hb_r (hb_r (hb_r (hb_r (hb_r (hb_r (hb_r (hb_r (hb_r (hb_r (hb_r (hb_r (hb_r (hb_r (hb_r (hb_r (hb_r (hb_r (kdX10_load_113))))))))))))))))))))))))))))))))
theorem dX10_load_161 : decode cX10_load 161 = .ok (.aload_n 0, 1) := of_decide_eq_true (hb_r (hb_r (hb_r (hb_r (hb_r (hb_r (hb_r (hb_r (hb_r (hb_r (hb_r (hb_r (hb_r (hb_r (hb_r (hb_r (hb_r (hb_r (hb_r (hb_r (hb_r (hb_r (hb_r (hb_r (hb_r (hb_r (hb_r (hb_r (hb_r (hb_r (hb_r (kdX10_load_113))))))))))))))))))))))))))))))))
theorem kdX10_load_162 : (decide (decode cX10_load 162 = .ok (.getfield 31, 3)) && (decide (decode cX10_load 165 = .ok (.iload_n 1, 1)) && (decide (decode cX10_load 166 = .ok (.iconst 1, 1)) && (decide (decode cX10_load 167 = .ok (.iastore, 1)) && (decide (decode cX10_load 168 = .ok (.aload_n 0, 1)) && (decide (decode cX10_load 169 = .ok (.getfield 34, 3)) && (decide (decode cX10_load 172 = .ok (.iload_n 1, 1)) && (decide (decode cX10_load 173 = .ok (.iload 4, 2)) && (decide (decode cX10_load 175 = .ok (.iastore, 1)) && (decide (decode cX10_load 176 = .ok (.iconst 1, 1)) && (decide (decode cX10_load 177 = .ok (.ireturn, 1))))))))))))) = true := by decide +kernel
theorem dX10_load_162 : decode cX10_load 162 = .ok (.getfield 31, 3) := of_decide_eq_true (hb_l (kdX10_load_162))
theorem dX10_load_165 : decode cX10_load 165 = .ok (.iload_n 1, 1) := of_decide_eq_true (hb_l (hb_r (kdX10_load_162)))
theorem dX10_load_166 : decode cX10_load 166 = .ok (.iconst 1, 1) := of_decide_eq_true (hb_l (hb_r (hb_r (kdX10_load_162))))
theorem dX10_load_167 : decode cX10_load 167 = .ok (.iastore, 1) := of_decide_eq_true (hb_l (hb_r (hb_r (hb_r (kdX10_load_162)))))
theorem dX10_load_168 : decode cX10_load 168 = .ok (.aload_n 0, 1) := of_decide_eq_true (hb_l (hb_r (hb_r (hb_r (hb_r (kdX10_load_162))))))
theorem dX10_load_169 : decode cX10_load 169 = .ok (.getfield 34, 3) := of_decide_eq_true (hb_l (hb_r (hb_r (hb_r (hb_r (hb_r (kdX10_load_162)))))))
theorem dX10_load_172 : decode cX10_load 172 = .ok (.iload_n 1, 1) := of_decide_eq_true (hb_l (hb_r (hb_r (hb_r (hb_r (hb_r (hb_r (kdX10_load_162))))))))
theorem dX10_load_173 : decode cX10_load 173 = .ok (.iload 4, 2) := of_decide_eq_true (hb_l (hb_r (hb_r (hb_r (hb_r (hb_r (hb_r (hb_r (kdX10_load_162)))))))))
theorem dX10_load_175 : decode cX10_load 175 = .ok (.iastore, 1) := of_decide_eq_true (hb_l (hb_r (hb_r (hb_r (hb_r (hb_r (hb_r (hb_r (hb_r (kdX10_load_162))))))))))
theorem dX10_load_176 : decode cX10_load 176 = .ok (.iconst 1, 1) := of_decide_eq_true (hb_l (hb_r (hb_r (hb_r (hb_r (hb_r (hb_r (hb_r (hb_r (hb_r (kdX10_load_162)))))))))))
theorem dX10_load_177 : decode cX10_load 177 = .ok (.ireturn, 1) := of_decide_eq_true (hb_r (hb_r (hb_r (hb_r (hb_r (hb_r (hb_r (hb_r (hb_r (hb_r (kdX10_load_162)))))))))))
set_option maxRecDepth 20000 in
theorem ggX10_land_X10_noHold : GoodIn wsX10_land wsX10_noHold := goodIn_sub (xc (xt1 (xl (xt4 (xt4 (xt1 (xh)))))) (xa (xc (xt1 (xl (xt4 (xt4 (xt1 (xt1 (xh))))))) (xc (xt1 (xl (xt4 (xt4 (xt1 (xt1 (xt1 (xh)))))))) (xc (xt1 (xl (xt4 (xt4 (xt4 (xh)))))) (xc (xt1 (xl (xt4 (xt4 (xh))))) (xc (xt1 (xl (xt4 (xt4 (xt4 (xt1 (xh))))))) (xn)))))) (fun _ h => xt1 (xr (h))))) (by decide +kernel)
set_option maxRecDepth 20000 in
theorem gX10_land_X10_noHold : GoodIn wsX10_land (wsV RX10 137 RX10 yX10_noHold wsX10_noHold) := goodIn_app (goodIn_sub (xc (xt1 (xl (xt4 (xt1 (xh))))) (xc (xt1 (xl (xt4 (xt1 (xt1 (xh)))))) (xc (xt1 (xl (xt4 (xt1 (xt1 (xt1 (xh))))))) (xc (xt1 (xl (xt4 (xt4 (xh))))) (xn))))) (by decide +kernel)) ggX10_land_X10_noHold
set_option maxRecDepth 20000 in
theorem ggX10_land_X10_throwsIf : GoodIn wsX10_land wsX10_throwsIf := goodIn_sub (xc (xt1 (xl (xt16 (xt1 (xh))))) (xa (xc (xt1 (xl (xh))) (xn)) (fun _ h => xt1 (xr (h))))) (by decide +kernel)
set_option maxRecDepth 20000 in
theorem gX10_land_X10_throwsIf : GoodIn wsX10_land (wsV RX10 122 RX10 yX10_throwsIf wsX10_throwsIf) := goodIn_app (goodIn_sub (xc (xt1 (xl (xt4 (xt4 (xt4 (xt1 (xt1 (xh)))))))) (xc (xt1 (xl (xt4 (xt4 (xt4 (xt1 (xt1 (xt1 (xh))))))))) (xc (xt1 (xl (xt16 (xh)))) (xc (xt1 (xl (xt4 (xt4 (xh))))) (xn))))) (by decide +kernel)) ggX10_land_X10_throwsIf
theorem dX10_land_0 : decode cX10_land 0 = .ok (.aload_n 0, 1) := by decide +kernel
theorem dX10_land_1 : decode cX10_land 1 = .ok (.iconst 0, 1) := by decide +kernel
theorem dX10_land_2 : decode cX10_land 2 = .ok (.putfield 109, 3) := by decide +kernel
theorem dX10_land_5 : decode cX10_land 5 = .ok (.aload_n 0, 1) := by decide +kernel
theorem dX10_land_6 : decode cX10_land 6 = .ok (.aload_n 0, 1) := by decide +kernel
theorem dX10_land_7 : decode cX10_land 7 = .ok (.iload_n 1, 1) := by decide +kernel
theorem dX10_land_8 : decode cX10_land 8 = .ok (.iload_n 2, 1) := by decide +kernel
theorem dX10_land_9 : decode cX10_land 9 = .ok (.invokevirtual 137, 3) := by decide +kernel
theorem dX10_land_12 : decode cX10_land 12 = .ok (.iconst 1, 1) := by decide +kernel
theorem dX10_land_13 : decode cX10_land 13 = .ok (.invokevirtual 122, 3) := by decide +kernel
theorem dX10_land_16 : decode cX10_land 16 = .ok (.ifCond .eq 5, 3) := by decide +kernel
theorem dX10_land_19 : decode cX10_land 19 = .ok (.iconst 0, 1) := by decide +kernel
theorem dX10_land_20 : decode cX10_land 20 = .ok (.ireturn, 1) := by decide +kernel
theorem dX10_land_21 : decode cX10_land 21 = .ok (.bipush 6, 2) := by decide +kernel
theorem dX10_land_23 : decode cX10_land 23 = .ok (.iload_n 1, 1) := by decide +kernel
theorem dX10_land_24 : decode cX10_land 24 = .ok (.imul, 1) := by decide +kernel
theorem dX10_land_25 : decode cX10_land 25 = .ok (.iload_n 2, 1) := by decide +kernel
theorem dX10_land_26 : decode cX10_land 26 = .ok (.iadd, 1) := by decide +kernel
theorem dX10_land_27 : decode cX10_land 27 = .ok (.istore_n 3, 1) := by decide +kernel
theorem dX10_land_28 : decode cX10_land 28 = .ok (.aload_n 0, 1) := by decide +kernel
theorem dX10_land_29 : decode cX10_land 29 = .ok (.getfield 40, 3) := by decide +kernel
theorem dX10_land_32 : decode cX10_land 32 = .ok (.iload_n 3, 1) := by decide +kernel
theorem dX10_land_33 : decode cX10_land 33 = .ok (.iaload, 1) := by decide +kernel
theorem dX10_land_34 : decode cX10_land 34 = .ok (.ifCond .ne 5, 3) := by decide +kernel
theorem dX10_land_37 : decode cX10_land 37 = .ok (.iconst (-1), 1) := by decide +kernel
theorem dX10_land_38 : decode cX10_land 38 = .ok (.ireturn, 1) := by decide +kernel
theorem dX10_land_39 : decode cX10_land 39 = .ok (.aload_n 0, 1) := by decide +kernel
theorem dX10_land_40 : decode cX10_land 40 = .ok (.getfield 40, 3) := by decide +kernel
theorem dX10_land_43 : decode cX10_land 43 = .ok (.iload_n 3, 1) := by decide +kernel
theorem dX10_land_44 : decode cX10_land 44 = .ok (.dup2, 1) := by decide +kernel
theorem dX10_land_45 : decode cX10_land 45 = .ok (.iaload, 1) := by decide +kernel
theorem dX10_land_46 : decode cX10_land 46 = .ok (.iconst 1, 1) := by decide +kernel
theorem dX10_land_47 : decode cX10_land 47 = .ok (.isub, 1) := by decide +kernel
theorem dX10_land_48 : decode cX10_land 48 = .ok (.iastore, 1) := by decide +kernel
theorem dX10_land_49 : decode cX10_land 49 = .ok (.aload_n 0, 1) := by decide +kernel
theorem dX10_land_50 : decode cX10_land 50 = .ok (.getfield 37, 3) := by decide +kernel
theorem dX10_land_53 : decode cX10_land 53 = .ok (.bipush 10, 2) := by decide +kernel
theorem dX10_land_55 : decode cX10_land 55 = .ok (.iload_n 3, 1) := by decide +kernel
theorem dX10_land_56 : decode cX10_land 56 = .ok (.imul, 1) := by decide +kernel
theorem dX10_land_57 : decode cX10_land 57 = .ok (.aload_n 0, 1) := by decide +kernel
theorem dX10_land_58 : decode cX10_land 58 = .ok (.getfield 40, 3) := by decide +kernel
theorem dX10_land_61 : decode cX10_land 61 = .ok (.iload_n 3, 1) := by decide +kernel
theorem dX10_land_62 : decode cX10_land 62 = .ok (.iaload, 1) := by decide +kernel
theorem dX10_land_63 : decode cX10_land 63 = .ok (.iadd, 1) := by decide +kernel
theorem dX10_land_64 : decode cX10_land 64 = .ok (.iaload, 1) := by decide +kernel
theorem dX10_land_65 : decode cX10_land 65 = .ok (.istore 4, 2) := by decide +kernel
theorem dX10_land_67 : decode cX10_land 67 = .ok (.aload_n 0, 1) := by decide +kernel
theorem dX10_land_68 : decode cX10_land 68 = .ok (.getfield 31, 3) := by decide +kernel
theorem dX10_land_71 : decode cX10_land 71 = .ok (.iload 4, 2) := by decide +kernel
theorem dX10_land_73 : decode cX10_land 73 = .ok (.iconst 2, 1) := by decide +kernel
theorem dX10_land_74 : decode cX10_land 74 = .ok (.iastore, 1) := by decide +kernel
theorem dX10_land_75 : decode cX10_land 75 = .ok (.aload_n 0, 1) := by decide +kernel
theorem dX10_land_76 : decode cX10_land 76 = .ok (.getfield 34, 3) := by decide +kernel
theorem dX10_land_79 : decode cX10_land 79 = .ok (.iload 4, 2) := by decide +kernel
theorem dX10_land_81 : decode cX10_land 81 = .ok (.iconst (-1), 1) := by decide +kernel
theorem dX10_land_82 : decode cX10_land 82 = .ok (.iastore, 1) := by decide +kernel
theorem dX10_land_83 : decode cX10_land 83 = .ok (.iload 4, 2) := by decide +kernel
theorem dX10_land_85 : decode cX10_land 85 = .ok (.ireturn, 1) := by decide +kernel
set_option maxRecDepth 20000 in
theorem ggX10_meets_X10_above : GoodIn wsX10_meets wsX10_above := goodIn_sub (xc (xt1 (xl (xt4 (xt4 (xt1 (xt1 (xt1 (xh)))))))) (xa (xc (xt1 (xl (xh))) (xc (xt1 (xl (xt1 (xt1 (xt1 (xh)))))) (xc (xt1 (xl (xt4 (xt4 (xt4 (xh)))))) (xc (xt1 (xl (xt4 (xt4 (xt4 (xt1 (xh))))))) (xc (xt1 (xl (xt4 (xt4 (xt4 (xt1 (xt1 (xh)))))))) (xc (xt1 (xl (xt4 (xt4 (xt1 (xt1 (xh))))))) (xc (xt1 (xl (xt4 (xt4 (xt4 (xt1 (xt1 (xt1 (xh))))))))) (xc (xt1 (xl (xt16 (xh)))) (xc (xt1 (xl (xt1 (xt1 (xh))))) (xc (xt1 (xl (xt16 (xt1 (xh))))) (xn))))))))))) (fun _ h => xt1 (xr (h))))) (by decide +kernel)
set_option maxRecDepth 20000 in
theorem gX10_meets_X10_above : GoodIn wsX10_meets (wsV RX10 141 RX10 yX10_above wsX10_above) := goodIn_app (goodIn_sub (xc (xt1 (xl (xt4 (xt1 (xt1 (xt1 (xh))))))) (xc (xt1 (xl (xt4 (xt4 (xh))))) (xc (xt1 (xl (xt4 (xt4 (xt1 (xh)))))) (xc (xt1 (xl (xt4 (xt4 (xt1 (xt1 (xh))))))) (xn))))) (by decide +kernel)) ggX10_meets_X10_above
theorem kdX10_meets_0 : (decide (decode cX10_meets 0 = .ok (.iconst 0, 1)) && (decide (decode cX10_meets 1 = .ok (.istore_n 3, 1)) && (decide (decode cX10_meets 2 = .ok (.iload_n 3, 1)) && (decide (decode cX10_meets 3 = .ok (.aload_n 0, 1)) && (decide (decode cX10_meets 4 = .ok (.getfield 40, 3)) && (decide (decode cX10_meets 7 = .ok (.iload_n 1, 1)) && (decide (decode cX10_meets 8 = .ok (.iaload, 1)) && (decide (decode cX10_meets 9 = .ok (.if_icmp .ge 65, 3)) && (decide (decode cX10_meets 12 = .ok (.aload_n 0, 1)) && (decide (decode cX10_meets 13 = .ok (.getfield 16, 3)) && (decide (decode cX10_meets 16 = .ok (.aload_n 0, 1)) && (decide (decode cX10_meets 17 = .ok (.getfield 19, 3)) && (decide (decode cX10_meets 20 = .ok (.aload_n 0, 1)) && (decide (decode cX10_meets 21 = .ok (.getfield 37, 3)) && (decide (decode cX10_meets 24 = .ok (.bipush 10, 2)) && (decide (decode cX10_meets 26 = .ok (.iload_n 1, 1)) && (decide (decode cX10_meets 27 = .ok (.imul, 1)) && (decide (decode cX10_meets 28 = .ok (.iload_n 3, 1)) && (decide (decode cX10_meets 29 = .ok (.iadd, 1)) && (decide (decode cX10_meets 30 = .ok (.iaload, 1)) && (decide (decode cX10_meets 31 = .ok (.iaload, 1)) && (decide (decode cX10_meets 32 = .ok (.iaload, 1)) && (decide (decode cX10_meets 33 = .ok (.istore 4, 2)) && (decide (decode cX10_meets 35 = .ok (.aload_n 0, 1)) && (decide (decode cX10_meets 36 = .ok (.getfield 43, 3)) && (decide (decode cX10_meets 39 = .ok (.iload_n 3, 1)) && (decide (decode cX10_meets 40 = .ok (.aload_n 0, 1)) && (decide (decode cX10_meets 41 = .ok (.iload_n 1, 1)) && (decide (decode cX10_meets 42 = .ok (.iload_n 3, 1)) && (decide (decode cX10_meets 43 = .ok (.invokevirtual 141, 3)) && (decide (decode cX10_meets 46 = .ok (.iload 4, 2)) && (decide (decode cX10_meets 48 = .ok (.iload 4, 2)))))))))))))))))))))))))))))))))) = true := by decide +kernel
theorem dX10_meets_0 : decode cX10_meets 0 = .ok (.iconst 0, 1) := of_decide_eq_true (hb_l (kdX10_meets_0))
theorem dX10_meets_1 : decode cX10_meets 1 = .ok (.istore_n 3, 1) := of_decide_eq_true (hb_l (hb_r (kdX10_meets_0)))
theorem dX10_meets_2 : decode cX10_meets 2 = .ok (.iload_n 3, 1) := of_decide_eq_true (hb_l (hb_r (hb_r (kdX10_meets_0))))
theorem dX10_meets_3 : decode cX10_meets 3 = .ok (.aload_n 0, 1) := of_decide_eq_true (hb_l (hb_r (hb_r (hb_r (kdX10_meets_0)))))
theorem dX10_meets_4 : decode cX10_meets 4 = .ok (.getfield 40, 3) := of_decide_eq_true (hb_l (hb_r (hb_r (hb_r (hb_r (kdX10_meets_0))))))
theorem dX10_meets_7 : decode cX10_meets 7 = .ok (.iload_n 1, 1) := of_decide_eq_true (hb_l (hb_r (hb_r (hb_r (hb_r (hb_r (kdX10_meets_0)))))))
theorem dX10_meets_8 : decode cX10_meets 8 = .ok (.iaload, 1) := of_decide_eq_true (hb_l (hb_r (hb_r (hb_r (hb_r (hb_r (hb_r (kdX10_meets_0))))))))
theorem dX10_meets_9 : decode cX10_meets 9 = .ok (.if_icmp .ge 65, 3) := of_decide_eq_true (hb_l (hb_r (hb_r (hb_r (hb_r (hb_r (hb_r (hb_r (kdX10_meets_0)))))))))
theorem dX10_meets_12 : decode cX10_meets 12 = .ok (.aload_n 0, 1) := of_decide_eq_true (hb_l (hb_r (hb_r (hb_r (hb_r (hb_r (hb_r (hb_r (hb_r (kdX10_meets_0))))))))))
theorem dX10_meets_13 : decode cX10_meets 13 = .ok (.getfield 16, 3) := of_decide_eq_true (hb_l (hb_r (hb_r (hb_r (hb_r (hb_r (hb_r (hb_r (hb_r (hb_r (kdX10_meets_0)))))))))))
theorem dX10_meets_16 : decode cX10_meets 16 = .ok (.aload_n 0, 1) := of_decide_eq_true (hb_l (hb_r (hb_r (hb_r (hb_r (hb_r (hb_r (hb_r (hb_r (hb_r (hb_r (kdX10_meets_0))))))))))))
theorem dX10_meets_17 : decode cX10_meets 17 = .ok (.getfield 19, 3) := of_decide_eq_true (hb_l (hb_r (hb_r (hb_r (hb_r (hb_r (hb_r (hb_r (hb_r (hb_r (hb_r (hb_r (kdX10_meets_0)))))))))))))
theorem dX10_meets_20 : decode cX10_meets 20 = .ok (.aload_n 0, 1) := of_decide_eq_true (hb_l (hb_r (hb_r (hb_r (hb_r (hb_r (hb_r (hb_r (hb_r (hb_r (hb_r (hb_r (hb_r (kdX10_meets_0))))))))))))))
theorem dX10_meets_21 : decode cX10_meets 21 = .ok (.getfield 37, 3) := of_decide_eq_true (hb_l (hb_r (hb_r (hb_r (hb_r (hb_r (hb_r (hb_r (hb_r (hb_r (hb_r (hb_r (hb_r (hb_r (kdX10_meets_0)))))))))))))))
theorem dX10_meets_24 : decode cX10_meets 24 = .ok (.bipush 10, 2) := of_decide_eq_true (hb_l (hb_r (hb_r (hb_r (hb_r (hb_r (hb_r (hb_r (hb_r (hb_r (hb_r (hb_r (hb_r (hb_r (hb_r (kdX10_meets_0))))))))))))))))
theorem dX10_meets_26 : decode cX10_meets 26 = .ok (.iload_n 1, 1) := of_decide_eq_true (hb_l (hb_r (hb_r (hb_r (hb_r (hb_r (hb_r (hb_r (hb_r (hb_r (hb_r (hb_r (hb_r (hb_r (hb_r (hb_r (kdX10_meets_0)))))))))))))))))
theorem dX10_meets_27 : decode cX10_meets 27 = .ok (.imul, 1) := of_decide_eq_true (hb_l (hb_r (hb_r (hb_r (hb_r (hb_r (hb_r (hb_r (hb_r (hb_r (hb_r (hb_r (hb_r (hb_r (hb_r (hb_r (hb_r (kdX10_meets_0))))))))))))))))))
theorem dX10_meets_28 : decode cX10_meets 28 = .ok (.iload_n 3, 1) := of_decide_eq_true (hb_l (hb_r (hb_r (hb_r (hb_r (hb_r (hb_r (hb_r (hb_r (hb_r (hb_r (hb_r (hb_r (hb_r (hb_r (hb_r (hb_r (hb_r (kdX10_meets_0)))))))))))))))))))
theorem dX10_meets_29 : decode cX10_meets 29 = .ok (.iadd, 1) := of_decide_eq_true (hb_l (hb_r (hb_r (hb_r (hb_r (hb_r (hb_r (hb_r (hb_r (hb_r (hb_r (hb_r (hb_r (hb_r (hb_r (hb_r (hb_r (hb_r (hb_r (kdX10_meets_0))))))))))))))))))))
theorem dX10_meets_30 : decode cX10_meets 30 = .ok (.iaload, 1) := of_decide_eq_true (hb_l (hb_r (hb_r (hb_r (hb_r (hb_r (hb_r (hb_r (hb_r (hb_r (hb_r (hb_r (hb_r (hb_r (hb_r (hb_r (hb_r (hb_r (hb_r (hb_r (kdX10_meets_0)))))))))))))))))))))
theorem dX10_meets_31 : decode cX10_meets 31 = .ok (.iaload, 1) := of_decide_eq_true (hb_l (hb_r (hb_r (hb_r (hb_r (hb_r (hb_r (hb_r (hb_r (hb_r (hb_r (hb_r (hb_r (hb_r (hb_r (hb_r (hb_r (hb_r (hb_r (hb_r (hb_r (kdX10_meets_0))))))))))))))))))))))
theorem dX10_meets_32 : decode cX10_meets 32 = .ok (.iaload, 1) := of_decide_eq_true (hb_l (hb_r (hb_r (hb_r (hb_r (hb_r (hb_r (hb_r (hb_r (hb_r (hb_r (hb_r (hb_r (hb_r (hb_r (hb_r (hb_r (hb_r (hb_r (hb_r (hb_r (hb_r (kdX10_meets_0)))))))))))))))))))))))
theorem dX10_meets_33 : decode cX10_meets 33 = .ok (.istore 4, 2) := of_decide_eq_true (hb_l (hb_r (hb_r (hb_r (hb_r (hb_r (hb_r (hb_r (hb_r (hb_r (hb_r (hb_r (hb_r (hb_r (hb_r (hb_r (hb_r (hb_r (hb_r (hb_r (hb_r (hb_r (hb_r (kdX10_meets_0))))))))))))))))))))))))
theorem dX10_meets_35 : decode cX10_meets 35 = .ok (.aload_n 0, 1) := of_decide_eq_true (hb_l (hb_r (hb_r (hb_r (hb_r (hb_r (hb_r (hb_r (hb_r (hb_r (hb_r (hb_r (hb_r (hb_r (hb_r (hb_r (hb_r (hb_r (hb_r (hb_r (hb_r (hb_r (hb_r (hb_r (kdX10_meets_0)))))))))))))))))))))))))
theorem dX10_meets_36 : decode cX10_meets 36 = .ok (.getfield 43, 3) := of_decide_eq_true (hb_l (hb_r (hb_r (hb_r (hb_r (hb_r (hb_r (hb_r (hb_r (hb_r (hb_r (hb_r (hb_r (hb_r (hb_r (hb_r (hb_r (hb_r (hb_r (hb_r (hb_r (hb_r (hb_r (hb_r (hb_r (kdX10_meets_0))))))))))))))))))))))))))
theorem dX10_meets_39 : decode cX10_meets 39 = .ok (.iload_n 3, 1) := of_decide_eq_true (hb_l (hb_r (hb_r (hb_r (hb_r (hb_r (hb_r (hb_r (hb_r (hb_r (hb_r (hb_r (hb_r (hb_r (hb_r (hb_r (hb_r (hb_r (hb_r (hb_r (hb_r (hb_r (hb_r (hb_r (hb_r (hb_r (kdX10_meets_0)))))))))))))))))))))))))))
theorem dX10_meets_40 : decode cX10_meets 40 = .ok (.aload_n 0, 1) := of_decide_eq_true (hb_l (hb_r (hb_r (hb_r (hb_r (hb_r (hb_r (hb_r (hb_r (hb_r (hb_r (hb_r (hb_r (hb_r (hb_r (hb_r (hb_r (hb_r (hb_r (hb_r (hb_r (hb_r (hb_r (hb_r (hb_r (hb_r (hb_r (kdX10_meets_0))))))))))))))))))))))))))))
theorem dX10_meets_41 : decode cX10_meets 41 = .ok (.iload_n 1, 1) := of_decide_eq_true (hb_l (hb_r (hb_r (hb_r (hb_r (hb_r (hb_r (hb_r (hb_r (hb_r (hb_r (hb_r (hb_r (hb_r (hb_r (hb_r (hb_r (hb_r (hb_r (hb_r (hb_r (hb_r (hb_r (hb_r (hb_r (hb_r (hb_r (hb_r (kdX10_meets_0)))))))))))))))))))))))))))))
theorem dX10_meets_42 : decode cX10_meets 42 = .ok (.iload_n 3, 1) := of_decide_eq_true (hb_l (hb_r (hb_r (hb_r (hb_r (hb_r (hb_r (hb_r (hb_r (hb_r (hb_r (hb_r (hb_r (hb_r (hb_r (hb_r (hb_r (hb_r (hb_r (hb_r (hb_r (hb_r (hb_r (hb_r (hb_r (hb_r (hb_r (hb_r (hb_r (kdX10_meets_0))))))))))))))))))))))))))))))
theorem dX10_meets_43 : decode cX10_meets 43 = .ok (.invokevirtual 141, 3) := of_decide_eq_true (hb_l (hb_r (hb_r (hb_r (hb_r (hb_r (hb_r (hb_r (hb_r (hb_r (hb_r (hb_r (hb_r (hb_r (hb_r (hb_r (hb_r (hb_r (hb_r (hb_r (hb_r (hb_r (hb_r (hb_r (hb_r (hb_r (hb_r (hb_r (hb_r (hb_r (kdX10_meets_0)))))))))))))))))))))))))))))))
theorem dX10_meets_46 : decode cX10_meets 46 = .ok (.iload 4, 2) := of_decide_eq_true (hb_l (hb_r (hb_r (hb_r (hb_r (hb_r (hb_r (hb_r (hb_r (hb_r (hb_r (hb_r (hb_r (hb_r (hb_r (hb_r (hb_r (hb_r (hb_r (hb_r (hb_r (hb_r (hb_r (hb_r (hb_r (hb_r (hb_r (hb_r (hb_r (hb_r (hb_r (kdX10_meets_0))))))))))))))))))))))))))))))))
theorem dX10_meets_48 : decode cX10_meets 48 = .ok (.iload 4, 2) := of_decide_eq_true (hb_r (hb_r (hb_r (hb_r (hb_r (hb_r (hb_r (hb_r (hb_r (hb_r (hb_r (hb_r (hb_r (hb_r (hb_r (hb_r (hb_r (hb_r (hb_r (hb_r (hb_r (hb_r (hb_r (hb_r (hb_r (hb_r (hb_r (hb_r (hb_r (hb_r (hb_r (kdX10_meets_0))))))))))))))))))))))))))))))))
theorem kdX10_meets_50 : (decide (decode cX10_meets 50 = .ok (.iload_n 2, 1)) && (decide (decode cX10_meets 51 = .ok (.imul, 1)) && (decide (decode cX10_meets 52 = .ok (.bipush 99, 2)) && (decide (decode cX10_meets 54 = .ok (.iadd, 1)) && (decide (decode cX10_meets 55 = .ok (.bipush 100, 2)) && (decide (decode cX10_meets 57 = .ok (.idiv, 1)) && (decide (decode cX10_meets 58 = .ok (.isub, 1)) && (decide (decode cX10_meets 59 = .ok (.if_icmp .le 7, 3)) && (decide (decode cX10_meets 62 = .ok (.iconst 1, 1)) && (decide (decode cX10_meets 63 = .ok (.goto 4, 3)) && (decide (decode cX10_meets 66 = .ok (.iconst 0, 1)) && (decide (decode cX10_meets 67 = .ok (.bastore, 1)) && (decide (decode cX10_meets 68 = .ok (.iinc 3 1, 3)) && (decide (decode cX10_meets 71 = .ok (.goto (-69), 3)) && (decide (decode cX10_meets 74 = .ok (.iconst 0, 1)) && (decide (decode cX10_meets 75 = .ok (.istore_n 3, 1)) && (decide (decode cX10_meets 76 = .ok (.aload_n 0, 1)) && (decide (decode cX10_meets 77 = .ok (.getfield 40, 3)) && (decide (decode cX10_meets 80 = .ok (.iload_n 1, 1)) && (decide (decode cX10_meets 81 = .ok (.iaload, 1)) && (decide (decode cX10_meets 82 = .ok (.istore 4, 2)) && (decide (decode cX10_meets 84 = .ok (.iconst 0, 1)) && (decide (decode cX10_meets 85 = .ok (.istore 5, 2)) && (decide (decode cX10_meets 87 = .ok (.iload 5, 2)) && (decide (decode cX10_meets 89 = .ok (.iload 4, 2)) && (decide (decode cX10_meets 91 = .ok (.if_icmp .ge 68, 3)) && (decide (decode cX10_meets 94 = .ok (.aload_n 0, 1)) && (decide (decode cX10_meets 95 = .ok (.getfield 37, 3)) && (decide (decode cX10_meets 98 = .ok (.bipush 10, 2)) && (decide (decode cX10_meets 100 = .ok (.iload_n 1, 1)) && (decide (decode cX10_meets 101 = .ok (.imul, 1)) && (decide (decode cX10_meets 102 = .ok (.iload 5, 2)))))))))))))))))))))))))))))))))) = true := by decide +kernel
theorem dX10_meets_50 : decode cX10_meets 50 = .ok (.iload_n 2, 1) := of_decide_eq_true (hb_l (kdX10_meets_50))
theorem dX10_meets_51 : decode cX10_meets 51 = .ok (.imul, 1) := of_decide_eq_true (hb_l (hb_r (kdX10_meets_50)))
theorem dX10_meets_52 : decode cX10_meets 52 = .ok (.bipush 99, 2) := of_decide_eq_true (hb_l (hb_r (hb_r (kdX10_meets_50))))
theorem dX10_meets_54 : decode cX10_meets 54 = .ok (.iadd, 1) := of_decide_eq_true (hb_l (hb_r (hb_r (hb_r (kdX10_meets_50)))))
theorem dX10_meets_55 : decode cX10_meets 55 = .ok (.bipush 100, 2) := of_decide_eq_true (hb_l (hb_r (hb_r (hb_r (hb_r (kdX10_meets_50))))))
theorem dX10_meets_57 : decode cX10_meets 57 = .ok (.idiv, 1) := of_decide_eq_true (hb_l (hb_r (hb_r (hb_r (hb_r (hb_r (kdX10_meets_50)))))))
theorem dX10_meets_58 : decode cX10_meets 58 = .ok (.isub, 1) := of_decide_eq_true (hb_l (hb_r (hb_r (hb_r (hb_r (hb_r (hb_r (kdX10_meets_50))))))))
theorem dX10_meets_59 : decode cX10_meets 59 = .ok (.if_icmp .le 7, 3) := of_decide_eq_true (hb_l (hb_r (hb_r (hb_r (hb_r (hb_r (hb_r (hb_r (kdX10_meets_50)))))))))
theorem dX10_meets_62 : decode cX10_meets 62 = .ok (.iconst 1, 1) := of_decide_eq_true (hb_l (hb_r (hb_r (hb_r (hb_r (hb_r (hb_r (hb_r (hb_r (kdX10_meets_50))))))))))
theorem dX10_meets_63 : decode cX10_meets 63 = .ok (.goto 4, 3) := of_decide_eq_true (hb_l (hb_r (hb_r (hb_r (hb_r (hb_r (hb_r (hb_r (hb_r (hb_r (kdX10_meets_50)))))))))))
theorem dX10_meets_66 : decode cX10_meets 66 = .ok (.iconst 0, 1) := of_decide_eq_true (hb_l (hb_r (hb_r (hb_r (hb_r (hb_r (hb_r (hb_r (hb_r (hb_r (hb_r (kdX10_meets_50))))))))))))
theorem dX10_meets_67 : decode cX10_meets 67 = .ok (.bastore, 1) := of_decide_eq_true (hb_l (hb_r (hb_r (hb_r (hb_r (hb_r (hb_r (hb_r (hb_r (hb_r (hb_r (hb_r (kdX10_meets_50)))))))))))))
theorem dX10_meets_68 : decode cX10_meets 68 = .ok (.iinc 3 1, 3) := of_decide_eq_true (hb_l (hb_r (hb_r (hb_r (hb_r (hb_r (hb_r (hb_r (hb_r (hb_r (hb_r (hb_r (hb_r (kdX10_meets_50))))))))))))))
theorem dX10_meets_71 : decode cX10_meets 71 = .ok (.goto (-69), 3) := of_decide_eq_true (hb_l (hb_r (hb_r (hb_r (hb_r (hb_r (hb_r (hb_r (hb_r (hb_r (hb_r (hb_r (hb_r (hb_r (kdX10_meets_50)))))))))))))))
theorem dX10_meets_74 : decode cX10_meets 74 = .ok (.iconst 0, 1) := of_decide_eq_true (hb_l (hb_r (hb_r (hb_r (hb_r (hb_r (hb_r (hb_r (hb_r (hb_r (hb_r (hb_r (hb_r (hb_r (hb_r (kdX10_meets_50))))))))))))))))
theorem dX10_meets_75 : decode cX10_meets 75 = .ok (.istore_n 3, 1) := of_decide_eq_true (hb_l (hb_r (hb_r (hb_r (hb_r (hb_r (hb_r (hb_r (hb_r (hb_r (hb_r (hb_r (hb_r (hb_r (hb_r (hb_r (kdX10_meets_50)))))))))))))))))
theorem dX10_meets_76 : decode cX10_meets 76 = .ok (.aload_n 0, 1) := of_decide_eq_true (hb_l (hb_r (hb_r (hb_r (hb_r (hb_r (hb_r (hb_r (hb_r (hb_r (hb_r (hb_r (hb_r (hb_r (hb_r (hb_r (hb_r (kdX10_meets_50))))))))))))))))))
theorem dX10_meets_77 : decode cX10_meets 77 = .ok (.getfield 40, 3) := of_decide_eq_true (hb_l (hb_r (hb_r (hb_r (hb_r (hb_r (hb_r (hb_r (hb_r (hb_r (hb_r (hb_r (hb_r (hb_r (hb_r (hb_r (hb_r (hb_r (kdX10_meets_50)))))))))))))))))))
theorem dX10_meets_80 : decode cX10_meets 80 = .ok (.iload_n 1, 1) := of_decide_eq_true (hb_l (hb_r (hb_r (hb_r (hb_r (hb_r (hb_r (hb_r (hb_r (hb_r (hb_r (hb_r (hb_r (hb_r (hb_r (hb_r (hb_r (hb_r (hb_r (kdX10_meets_50))))))))))))))))))))
theorem dX10_meets_81 : decode cX10_meets 81 = .ok (.iaload, 1) := of_decide_eq_true (hb_l (hb_r (hb_r (hb_r (hb_r (hb_r (hb_r (hb_r (hb_r (hb_r (hb_r (hb_r (hb_r (hb_r (hb_r (hb_r (hb_r (hb_r (hb_r (hb_r (kdX10_meets_50)))))))))))))))))))))
theorem dX10_meets_82 : decode cX10_meets 82 = .ok (.istore 4, 2) := of_decide_eq_true (hb_l (hb_r (hb_r (hb_r (hb_r (hb_r (hb_r (hb_r (hb_r (hb_r (hb_r (hb_r (hb_r (hb_r (hb_r (hb_r (hb_r (hb_r (hb_r (hb_r (hb_r (kdX10_meets_50))))))))))))))))))))))
theorem dX10_meets_84 : decode cX10_meets 84 = .ok (.iconst 0, 1) := of_decide_eq_true (hb_l (hb_r (hb_r (hb_r (hb_r (hb_r (hb_r (hb_r (hb_r (hb_r (hb_r (hb_r (hb_r (hb_r (hb_r (hb_r (hb_r (hb_r (hb_r (hb_r (hb_r (hb_r (kdX10_meets_50)))))))))))))))))))))))
theorem dX10_meets_85 : decode cX10_meets 85 = .ok (.istore 5, 2) := of_decide_eq_true (hb_l (hb_r (hb_r (hb_r (hb_r (hb_r (hb_r (hb_r (hb_r (hb_r (hb_r (hb_r (hb_r (hb_r (hb_r (hb_r (hb_r (hb_r (hb_r (hb_r (hb_r (hb_r (hb_r (kdX10_meets_50))))))))))))))))))))))))
theorem dX10_meets_87 : decode cX10_meets 87 = .ok (.iload 5, 2) := of_decide_eq_true (hb_l (hb_r (hb_r (hb_r (hb_r (hb_r (hb_r (hb_r (hb_r (hb_r (hb_r (hb_r (hb_r (hb_r (hb_r (hb_r (hb_r (hb_r (hb_r (hb_r (hb_r (hb_r (hb_r (hb_r (kdX10_meets_50)))))))))))))))))))))))))
theorem dX10_meets_89 : decode cX10_meets 89 = .ok (.iload 4, 2) := of_decide_eq_true (hb_l (hb_r (hb_r (hb_r (hb_r (hb_r (hb_r (hb_r (hb_r (hb_r (hb_r (hb_r (hb_r (hb_r (hb_r (hb_r (hb_r (hb_r (hb_r (hb_r (hb_r (hb_r (hb_r (hb_r (hb_r (kdX10_meets_50))))))))))))))))))))))))))
theorem dX10_meets_91 : decode cX10_meets 91 = .ok (.if_icmp .ge 68, 3) := of_decide_eq_true (hb_l (hb_r (hb_r (hb_r (hb_r (hb_r (hb_r (hb_r (hb_r (hb_r (hb_r (hb_r (hb_r (hb_r (hb_r (hb_r (hb_r (hb_r (hb_r (hb_r (hb_r (hb_r (hb_r (hb_r (hb_r (hb_r (kdX10_meets_50)))))))))))))))))))))))))))
theorem dX10_meets_94 : decode cX10_meets 94 = .ok (.aload_n 0, 1) := of_decide_eq_true (hb_l (hb_r (hb_r (hb_r (hb_r (hb_r (hb_r (hb_r (hb_r (hb_r (hb_r (hb_r (hb_r (hb_r (hb_r (hb_r (hb_r (hb_r (hb_r (hb_r (hb_r (hb_r (hb_r (hb_r (hb_r (hb_r (hb_r (kdX10_meets_50))))))))))))))))))))))))))))
theorem dX10_meets_95 : decode cX10_meets 95 = .ok (.getfield 37, 3) := of_decide_eq_true (hb_l (hb_r (hb_r (hb_r (hb_r (hb_r (hb_r (hb_r (hb_r (hb_r (hb_r (hb_r (hb_r (hb_r (hb_r (hb_r (hb_r (hb_r (hb_r (hb_r (hb_r (hb_r (hb_r (hb_r (hb_r (hb_r (hb_r (hb_r (kdX10_meets_50)))))))))))))))))))))))))))))
theorem dX10_meets_98 : decode cX10_meets 98 = .ok (.bipush 10, 2) := of_decide_eq_true (hb_l (hb_r (hb_r (hb_r (hb_r (hb_r (hb_r (hb_r (hb_r (hb_r (hb_r (hb_r (hb_r (hb_r (hb_r (hb_r (hb_r (hb_r (hb_r (hb_r (hb_r (hb_r (hb_r (hb_r (hb_r (hb_r (hb_r (hb_r (hb_r (kdX10_meets_50))))))))))))))))))))))))))))))
theorem dX10_meets_100 : decode cX10_meets 100 = .ok (.iload_n 1, 1) := of_decide_eq_true (hb_l (hb_r (hb_r (hb_r (hb_r (hb_r (hb_r (hb_r (hb_r (hb_r (hb_r (hb_r (hb_r (hb_r (hb_r (hb_r (hb_r (hb_r (hb_r (hb_r (hb_r (hb_r (hb_r (hb_r (hb_r (hb_r (hb_r (hb_r (hb_r (hb_r (kdX10_meets_50)))))))))))))))))))))))))))))))
theorem dX10_meets_101 : decode cX10_meets 101 = .ok (.imul, 1) := of_decide_eq_true (hb_l (hb_r (hb_r (hb_r (hb_r (hb_r (hb_r (hb_r (hb_r (hb_r (hb_r (hb_r (hb_r (hb_r (hb_r (hb_r (hb_r (hb_r (hb_r (hb_r (hb_r (hb_r (hb_r (hb_r (hb_r (hb_r (hb_r (hb_r (hb_r (hb_r (hb_r (kdX10_meets_50))))))))))))))))))))))))))))))))
theorem dX10_meets_102 : decode cX10_meets 102 = .ok (.iload 5, 2) := of_decide_eq_true (hb_r (hb_r (hb_r (hb_r (hb_r (hb_r (hb_r (hb_r (hb_r (hb_r (hb_r (hb_r (hb_r (hb_r (hb_r (hb_r (hb_r (hb_r (hb_r (hb_r (hb_r (hb_r (hb_r (hb_r (hb_r (hb_r (hb_r (hb_r (hb_r (hb_r (hb_r (kdX10_meets_50))))))))))))))))))))))))))))))))
theorem kdX10_meets_104 : (decide (decode cX10_meets 104 = .ok (.iadd, 1)) && (decide (decode cX10_meets 105 = .ok (.iaload, 1)) && (decide (decode cX10_meets 106 = .ok (.istore 6, 2)) && (decide (decode cX10_meets 108 = .ok (.aload_n 0, 1)) && (decide (decode cX10_meets 109 = .ok (.getfield 43, 3)) && (decide (decode cX10_meets 112 = .ok (.iload 5, 2)) && (decide (decode cX10_meets 114 = .ok (.baload, 1)) && (decide (decode cX10_meets 115 = .ok (.ifCond .eq 22, 3)) && (decide (decode cX10_meets 118 = .ok (.aload_n 0, 1)) && (decide (decode cX10_meets 119 = .ok (.getfield 31, 3)) && (decide (decode cX10_meets 122 = .ok (.iload 6, 2)) && (decide (decode cX10_meets 124 = .ok (.iconst 3, 1)) && (decide (decode cX10_meets 125 = .ok (.iastore, 1)) && (decide (decode cX10_meets 126 = .ok (.aload_n 0, 1)) && (decide (decode cX10_meets 127 = .ok (.getfield 34, 3)) && (decide (decode cX10_meets 130 = .ok (.iload 6, 2)) && (decide (decode cX10_meets 132 = .ok (.iconst (-1), 1)) && (decide (decode cX10_meets 133 = .ok (.iastore, 1)) && (decide (decode cX10_meets 134 = .ok (.goto 19, 3)) && (decide (decode cX10_meets 137 = .ok (.aload_n 0, 1)) && (decide (decode cX10_meets 138 = .ok (.getfield 37, 3)) && (decide (decode cX10_meets 141 = .ok (.bipush 10, 2)) && (decide (decode cX10_meets 143 = .ok (.iload_n 1, 1)) && (decide (decode cX10_meets 144 = .ok (.imul, 1)) && (decide (decode cX10_meets 145 = .ok (.iload_n 3, 1)) && (decide (decode cX10_meets 146 = .ok (.iadd, 1)) && (decide (decode cX10_meets 147 = .ok (.iload 6, 2)) && (decide (decode cX10_meets 149 = .ok (.iastore, 1)) && (decide (decode cX10_meets 150 = .ok (.iinc 3 1, 3)) && (decide (decode cX10_meets 153 = .ok (.iinc 5 1, 3)) && (decide (decode cX10_meets 156 = .ok (.goto (-69), 3)) && (decide (decode cX10_meets 159 = .ok (.aload_n 0, 1)))))))))))))))))))))))))))))))))) = true := by decide +kernel
theorem dX10_meets_104 : decode cX10_meets 104 = .ok (.iadd, 1) := of_decide_eq_true (hb_l (kdX10_meets_104))
theorem dX10_meets_105 : decode cX10_meets 105 = .ok (.iaload, 1) := of_decide_eq_true (hb_l (hb_r (kdX10_meets_104)))
theorem dX10_meets_106 : decode cX10_meets 106 = .ok (.istore 6, 2) := of_decide_eq_true (hb_l (hb_r (hb_r (kdX10_meets_104))))
theorem dX10_meets_108 : decode cX10_meets 108 = .ok (.aload_n 0, 1) := of_decide_eq_true (hb_l (hb_r (hb_r (hb_r (kdX10_meets_104)))))
theorem dX10_meets_109 : decode cX10_meets 109 = .ok (.getfield 43, 3) := of_decide_eq_true (hb_l (hb_r (hb_r (hb_r (hb_r (kdX10_meets_104))))))
theorem dX10_meets_112 : decode cX10_meets 112 = .ok (.iload 5, 2) := of_decide_eq_true (hb_l (hb_r (hb_r (hb_r (hb_r (hb_r (kdX10_meets_104)))))))
theorem dX10_meets_114 : decode cX10_meets 114 = .ok (.baload, 1) := of_decide_eq_true (hb_l (hb_r (hb_r (hb_r (hb_r (hb_r (hb_r (kdX10_meets_104))))))))
theorem dX10_meets_115 : decode cX10_meets 115 = .ok (.ifCond .eq 22, 3) := of_decide_eq_true (hb_l (hb_r (hb_r (hb_r (hb_r (hb_r (hb_r (hb_r (kdX10_meets_104)))))))))
theorem dX10_meets_118 : decode cX10_meets 118 = .ok (.aload_n 0, 1) := of_decide_eq_true (hb_l (hb_r (hb_r (hb_r (hb_r (hb_r (hb_r (hb_r (hb_r (kdX10_meets_104))))))))))
theorem dX10_meets_119 : decode cX10_meets 119 = .ok (.getfield 31, 3) := of_decide_eq_true (hb_l (hb_r (hb_r (hb_r (hb_r (hb_r (hb_r (hb_r (hb_r (hb_r (kdX10_meets_104)))))))))))
theorem dX10_meets_122 : decode cX10_meets 122 = .ok (.iload 6, 2) := of_decide_eq_true (hb_l (hb_r (hb_r (hb_r (hb_r (hb_r (hb_r (hb_r (hb_r (hb_r (hb_r (kdX10_meets_104))))))))))))
theorem dX10_meets_124 : decode cX10_meets 124 = .ok (.iconst 3, 1) := of_decide_eq_true (hb_l (hb_r (hb_r (hb_r (hb_r (hb_r (hb_r (hb_r (hb_r (hb_r (hb_r (hb_r (kdX10_meets_104)))))))))))))
theorem dX10_meets_125 : decode cX10_meets 125 = .ok (.iastore, 1) := of_decide_eq_true (hb_l (hb_r (hb_r (hb_r (hb_r (hb_r (hb_r (hb_r (hb_r (hb_r (hb_r (hb_r (hb_r (kdX10_meets_104))))))))))))))
theorem dX10_meets_126 : decode cX10_meets 126 = .ok (.aload_n 0, 1) := of_decide_eq_true (hb_l (hb_r (hb_r (hb_r (hb_r (hb_r (hb_r (hb_r (hb_r (hb_r (hb_r (hb_r (hb_r (hb_r (kdX10_meets_104)))))))))))))))
theorem dX10_meets_127 : decode cX10_meets 127 = .ok (.getfield 34, 3) := of_decide_eq_true (hb_l (hb_r (hb_r (hb_r (hb_r (hb_r (hb_r (hb_r (hb_r (hb_r (hb_r (hb_r (hb_r (hb_r (hb_r (kdX10_meets_104))))))))))))))))
theorem dX10_meets_130 : decode cX10_meets 130 = .ok (.iload 6, 2) := of_decide_eq_true (hb_l (hb_r (hb_r (hb_r (hb_r (hb_r (hb_r (hb_r (hb_r (hb_r (hb_r (hb_r (hb_r (hb_r (hb_r (hb_r (kdX10_meets_104)))))))))))))))))
theorem dX10_meets_132 : decode cX10_meets 132 = .ok (.iconst (-1), 1) := of_decide_eq_true (hb_l (hb_r (hb_r (hb_r (hb_r (hb_r (hb_r (hb_r (hb_r (hb_r (hb_r (hb_r (hb_r (hb_r (hb_r (hb_r (hb_r (kdX10_meets_104))))))))))))))))))
theorem dX10_meets_133 : decode cX10_meets 133 = .ok (.iastore, 1) := of_decide_eq_true (hb_l (hb_r (hb_r (hb_r (hb_r (hb_r (hb_r (hb_r (hb_r (hb_r (hb_r (hb_r (hb_r (hb_r (hb_r (hb_r (hb_r (hb_r (kdX10_meets_104)))))))))))))))))))
theorem dX10_meets_134 : decode cX10_meets 134 = .ok (.goto 19, 3) := of_decide_eq_true (hb_l (hb_r (hb_r (hb_r (hb_r (hb_r (hb_r (hb_r (hb_r (hb_r (hb_r (hb_r (hb_r (hb_r (hb_r (hb_r (hb_r (hb_r (hb_r (kdX10_meets_104))))))))))))))))))))
theorem dX10_meets_137 : decode cX10_meets 137 = .ok (.aload_n 0, 1) := of_decide_eq_true (hb_l (hb_r (hb_r (hb_r (hb_r (hb_r (hb_r (hb_r (hb_r (hb_r (hb_r (hb_r (hb_r (hb_r (hb_r (hb_r (hb_r (hb_r (hb_r (hb_r (kdX10_meets_104)))))))))))))))))))))
theorem dX10_meets_138 : decode cX10_meets 138 = .ok (.getfield 37, 3) := of_decide_eq_true (hb_l (hb_r (hb_r (hb_r (hb_r (hb_r (hb_r (hb_r (hb_r (hb_r (hb_r (hb_r (hb_r (hb_r (hb_r (hb_r (hb_r (hb_r (hb_r (hb_r (hb_r (kdX10_meets_104))))))))))))))))))))))
theorem dX10_meets_141 : decode cX10_meets 141 = .ok (.bipush 10, 2) := of_decide_eq_true (hb_l (hb_r (hb_r (hb_r (hb_r (hb_r (hb_r (hb_r (hb_r (hb_r (hb_r (hb_r (hb_r (hb_r (hb_r (hb_r (hb_r (hb_r (hb_r (hb_r (hb_r (hb_r (kdX10_meets_104)))))))))))))))))))))))
theorem dX10_meets_143 : decode cX10_meets 143 = .ok (.iload_n 1, 1) := of_decide_eq_true (hb_l (hb_r (hb_r (hb_r (hb_r (hb_r (hb_r (hb_r (hb_r (hb_r (hb_r (hb_r (hb_r (hb_r (hb_r (hb_r (hb_r (hb_r (hb_r (hb_r (hb_r (hb_r (hb_r (kdX10_meets_104))))))))))))))))))))))))
theorem dX10_meets_144 : decode cX10_meets 144 = .ok (.imul, 1) := of_decide_eq_true (hb_l (hb_r (hb_r (hb_r (hb_r (hb_r (hb_r (hb_r (hb_r (hb_r (hb_r (hb_r (hb_r (hb_r (hb_r (hb_r (hb_r (hb_r (hb_r (hb_r (hb_r (hb_r (hb_r (hb_r (kdX10_meets_104)))))))))))))))))))))))))
theorem dX10_meets_145 : decode cX10_meets 145 = .ok (.iload_n 3, 1) := of_decide_eq_true (hb_l (hb_r (hb_r (hb_r (hb_r (hb_r (hb_r (hb_r (hb_r (hb_r (hb_r (hb_r (hb_r (hb_r (hb_r (hb_r (hb_r (hb_r (hb_r (hb_r (hb_r (hb_r (hb_r (hb_r (hb_r (kdX10_meets_104))))))))))))))))))))))))))
theorem dX10_meets_146 : decode cX10_meets 146 = .ok (.iadd, 1) := of_decide_eq_true (hb_l (hb_r (hb_r (hb_r (hb_r (hb_r (hb_r (hb_r (hb_r (hb_r (hb_r (hb_r (hb_r (hb_r (hb_r (hb_r (hb_r (hb_r (hb_r (hb_r (hb_r (hb_r (hb_r (hb_r (hb_r (hb_r (kdX10_meets_104)))))))))))))))))))))))))))
theorem dX10_meets_147 : decode cX10_meets 147 = .ok (.iload 6, 2) := of_decide_eq_true (hb_l (hb_r (hb_r (hb_r (hb_r (hb_r (hb_r (hb_r (hb_r (hb_r (hb_r (hb_r (hb_r (hb_r (hb_r (hb_r (hb_r (hb_r (hb_r (hb_r (hb_r (hb_r (hb_r (hb_r (hb_r (hb_r (hb_r (kdX10_meets_104))))))))))))))))))))))))))))
theorem dX10_meets_149 : decode cX10_meets 149 = .ok (.iastore, 1) := of_decide_eq_true (hb_l (hb_r (hb_r (hb_r (hb_r (hb_r (hb_r (hb_r (hb_r (hb_r (hb_r (hb_r (hb_r (hb_r (hb_r (hb_r (hb_r (hb_r (hb_r (hb_r (hb_r (hb_r (hb_r (hb_r (hb_r (hb_r (hb_r (hb_r (kdX10_meets_104)))))))))))))))))))))))))))))
theorem dX10_meets_150 : decode cX10_meets 150 = .ok (.iinc 3 1, 3) := of_decide_eq_true (hb_l (hb_r (hb_r (hb_r (hb_r (hb_r (hb_r (hb_r (hb_r (hb_r (hb_r (hb_r (hb_r (hb_r (hb_r (hb_r (hb_r (hb_r (hb_r (hb_r (hb_r (hb_r (hb_r (hb_r (hb_r (hb_r (hb_r (hb_r (hb_r (kdX10_meets_104))))))))))))))))))))))))))))))
theorem dX10_meets_153 : decode cX10_meets 153 = .ok (.iinc 5 1, 3) := of_decide_eq_true (hb_l (hb_r (hb_r (hb_r (hb_r (hb_r (hb_r (hb_r (hb_r (hb_r (hb_r (hb_r (hb_r (hb_r (hb_r (hb_r (hb_r (hb_r (hb_r (hb_r (hb_r (hb_r (hb_r (hb_r (hb_r (hb_r (hb_r (hb_r (hb_r (hb_r (kdX10_meets_104)))))))))))))))))))))))))))))))
theorem dX10_meets_156 : decode cX10_meets 156 = .ok (.goto (-69), 3) := of_decide_eq_true (hb_l (hb_r (hb_r (hb_r (hb_r (hb_r (hb_r (hb_r (hb_r (hb_r (hb_r (hb_r (hb_r (hb_r (hb_r (hb_r (hb_r (hb_r (hb_r (hb_r (hb_r (hb_r (hb_r (hb_r (hb_r (hb_r (hb_r (hb_r (hb_r (hb_r (hb_r (kdX10_meets_104))))))))))))))))))))))))))))))))
theorem dX10_meets_159 : decode cX10_meets 159 = .ok (.aload_n 0, 1) := of_decide_eq_true (hb_r (hb_r (hb_r (hb_r (hb_r (hb_r (hb_r (hb_r (hb_r (hb_r (hb_r (hb_r (hb_r (hb_r (hb_r (hb_r (hb_r (hb_r (hb_r (hb_r (hb_r (hb_r (hb_r (hb_r (hb_r (hb_r (hb_r (hb_r (hb_r (hb_r (hb_r (kdX10_meets_104))))))))))))))))))))))))))))))))
theorem kdX10_meets_160 : (decide (decode cX10_meets 160 = .ok (.getfield 40, 3)) && (decide (decode cX10_meets 163 = .ok (.iload_n 1, 1)) && (decide (decode cX10_meets 164 = .ok (.iload_n 3, 1)) && (decide (decode cX10_meets 165 = .ok (.iastore, 1)) && (decide (decode cX10_meets 166 = .ok (.iload 4, 2)) && (decide (decode cX10_meets 168 = .ok (.iload_n 3, 1)) && (decide (decode cX10_meets 169 = .ok (.isub, 1)) && (decide (decode cX10_meets 170 = .ok (.ireturn, 1)))))))))) = true := by decide +kernel
theorem dX10_meets_160 : decode cX10_meets 160 = .ok (.getfield 40, 3) := of_decide_eq_true (hb_l (kdX10_meets_160))
theorem dX10_meets_163 : decode cX10_meets 163 = .ok (.iload_n 1, 1) := of_decide_eq_true (hb_l (hb_r (kdX10_meets_160)))
theorem dX10_meets_164 : decode cX10_meets 164 = .ok (.iload_n 3, 1) := of_decide_eq_true (hb_l (hb_r (hb_r (kdX10_meets_160))))
theorem dX10_meets_165 : decode cX10_meets 165 = .ok (.iastore, 1) := of_decide_eq_true (hb_l (hb_r (hb_r (hb_r (kdX10_meets_160)))))
theorem dX10_meets_166 : decode cX10_meets 166 = .ok (.iload 4, 2) := of_decide_eq_true (hb_l (hb_r (hb_r (hb_r (hb_r (kdX10_meets_160))))))
theorem dX10_meets_168 : decode cX10_meets 168 = .ok (.iload_n 3, 1) := of_decide_eq_true (hb_l (hb_r (hb_r (hb_r (hb_r (hb_r (kdX10_meets_160)))))))
theorem dX10_meets_169 : decode cX10_meets 169 = .ok (.isub, 1) := of_decide_eq_true (hb_l (hb_r (hb_r (hb_r (hb_r (hb_r (hb_r (kdX10_meets_160))))))))
theorem dX10_meets_170 : decode cX10_meets 170 = .ok (.ireturn, 1) := of_decide_eq_true (hb_r (hb_r (hb_r (hb_r (hb_r (hb_r (hb_r (kdX10_meets_160))))))))
set_option maxRecDepth 20000 in
theorem ggX10_storm_X10_in : GoodIn wsX10_storm wsX10_in := goodIn_sub (xc (xt1 (xl (xl (xt4 (xt1 (xh)))))) (xn)) (by decide +kernel)
set_option maxRecDepth 20000 in
theorem gX10_storm_X10_in : GoodIn wsX10_storm (va_wsS RX10 115 yX10_in wsX10_in) := goodIn_app (goodIn_sub (xc (xt1 (xl (xl (xt1 (xt1 (xh)))))) (xc (xt1 (xl (xl (xt1 (xt1 (xt1 (xh))))))) (xc (xt1 (xl (xl (xt4 (xh))))) (xn)))) (by decide +kernel)) ggX10_storm_X10_in
set_option maxRecDepth 20000 in
theorem ggX10_storm_X10_throwsIf : GoodIn wsX10_storm wsX10_throwsIf := goodIn_sub (xc (xt1 (xl (xl (xt4 (xt4 (xt1 (xh))))))) (xa (xc (xt1 (xl (xl (xh)))) (xn)) (fun _ h => xt1 (xr (h))))) (by decide +kernel)
set_option maxRecDepth 20000 in
theorem gX10_storm_X10_throwsIf : GoodIn wsX10_storm (wsV RX10 122 RX10 yX10_throwsIf wsX10_throwsIf) := goodIn_app (goodIn_sub (xc (xt1 (xl (xl (xt4 (xt1 (xt1 (xh))))))) (xc (xt1 (xl (xl (xt4 (xt1 (xt1 (xt1 (xh)))))))) (xc (xt1 (xl (xl (xt4 (xt4 (xh)))))) (xc (xt1 (xl (xl (xt4 (xh))))) (xn))))) (by decide +kernel)) ggX10_storm_X10_throwsIf
set_option maxRecDepth 20000 in
theorem ggX10_storm_X10_meets : GoodIn wsX10_storm wsX10_meets := goodIn_sub (xc (xt1 (xl (xl (xt4 (xt4 (xt4 (xt1 (xh)))))))) (xa (xc (xt1 (xl (xl (xt4 (xt4 (xt4 (xt1 (xt1 (xh))))))))) (xc (xt1 (xl (xl (xt4 (xt4 (xt4 (xt1 (xt1 (xt1 (xh)))))))))) (xc (xt1 (xl (xl (xt16 (xh))))) (xc (xt1 (xl (xl (xt16 (xt1 (xh)))))) (xc (xt1 (xl (xl (xt16 (xt1 (xt1 (xh))))))) (xc (xt1 (xl (xl (xt16 (xt1 (xt1 (xt1 (xh)))))))) (xc (xt1 (xl (xl (xt16 (xt4 (xh)))))) (xc (xt1 (xl (xl (xt16 (xt4 (xt1 (xh))))))) (xc (xt1 (xl (xl (xt16 (xt4 (xt1 (xt1 (xh)))))))) (xc (xt1 (xl (xl (xt16 (xt4 (xt1 (xt1 (xt1 (xh))))))))) (xc (xt1 (xl (xl (xt4 (xh))))) (xc (xt1 (xl (xr (xh)))) (xc (xt1 (xl (xr (xt1 (xh))))) (xc (xt1 (xl (xr (xt1 (xt1 (xh)))))) (xc (xt1 (xl (xr (xt1 (xt1 (xt1 (xh))))))) (xc (xt1 (xl (xr (xt4 (xh))))) (xc (xt1 (xl (xr (xt4 (xt1 (xh)))))) (xc (xt1 (xl (xr (xt4 (xt1 (xt1 (xh))))))) (xn))))))))))))))))))) (fun _ h => xt1 (xr (h))))) (by decide +kernel)
set_option maxRecDepth 20000 in
theorem gX10_storm_X10_meets : GoodIn wsX10_storm (wsV RX10 145 RX10 yX10_meets wsX10_meets) := goodIn_app (goodIn_sub (xc (xt1 (xl (xl (xt4 (xt4 (xt1 (xt1 (xh)))))))) (xc (xt1 (xl (xl (xt4 (xt4 (xt1 (xt1 (xt1 (xh))))))))) (xc (xt1 (xl (xl (xt4 (xt4 (xt4 (xh))))))) (xc (xt1 (xl (xl (xt4 (xh))))) (xn))))) (by decide +kernel)) ggX10_storm_X10_meets
theorem dX10_storm_0 : decode cX10_storm 0 = .ok (.aload_n 0, 1) := by decide +kernel
theorem dX10_storm_1 : decode cX10_storm 1 = .ok (.iconst 0, 1) := by decide +kernel
theorem dX10_storm_2 : decode cX10_storm 2 = .ok (.putfield 109, 3) := by decide +kernel
theorem dX10_storm_5 : decode cX10_storm 5 = .ok (.aload_n 0, 1) := by decide +kernel
theorem dX10_storm_6 : decode cX10_storm 6 = .ok (.iload_n 1, 1) := by decide +kernel
theorem dX10_storm_7 : decode cX10_storm 7 = .ok (.iconst 0, 1) := by decide +kernel
theorem dX10_storm_8 : decode cX10_storm 8 = .ok (.aload_n 0, 1) := by decide +kernel
theorem dX10_storm_9 : decode cX10_storm 9 = .ok (.getfield 119, 3) := by decide +kernel
theorem dX10_storm_12 : decode cX10_storm 12 = .ok (.iconst 1, 1) := by decide +kernel
theorem dX10_storm_13 : decode cX10_storm 13 = .ok (.isub, 1) := by decide +kernel
theorem dX10_storm_14 : decode cX10_storm 14 = .ok (.invokestatic 115, 3) := by decide +kernel
theorem dX10_storm_17 : decode cX10_storm 17 = .ok (.ifCond .ne 7, 3) := by decide +kernel
theorem dX10_storm_20 : decode cX10_storm 20 = .ok (.iconst 1, 1) := by decide +kernel
theorem dX10_storm_21 : decode cX10_storm 21 = .ok (.goto 4, 3) := by decide +kernel
theorem dX10_storm_24 : decode cX10_storm 24 = .ok (.iconst 0, 1) := by decide +kernel
theorem dX10_storm_25 : decode cX10_storm 25 = .ok (.iconst 1, 1) := by decide +kernel
theorem dX10_storm_26 : decode cX10_storm 26 = .ok (.invokevirtual 122, 3) := by decide +kernel
theorem dX10_storm_29 : decode cX10_storm 29 = .ok (.ifCond .ne 26, 3) := by decide +kernel
theorem dX10_storm_32 : decode cX10_storm 32 = .ok (.aload_n 0, 1) := by decide +kernel
theorem dX10_storm_33 : decode cX10_storm 33 = .ok (.iload_n 2, 1) := by decide +kernel
theorem dX10_storm_34 : decode cX10_storm 34 = .ok (.iconst 0, 1) := by decide +kernel
theorem dX10_storm_35 : decode cX10_storm 35 = .ok (.bipush 100, 2) := by decide +kernel
theorem dX10_storm_37 : decode cX10_storm 37 = .ok (.invokestatic 115, 3) := by decide +kernel
theorem dX10_storm_40 : decode cX10_storm 40 = .ok (.ifCond .ne 7, 3) := by decide +kernel
theorem dX10_storm_43 : decode cX10_storm 43 = .ok (.iconst 1, 1) := by decide +kernel
theorem dX10_storm_44 : decode cX10_storm 44 = .ok (.goto 4, 3) := by decide +kernel
theorem dX10_storm_47 : decode cX10_storm 47 = .ok (.iconst 0, 1) := by decide +kernel
theorem dX10_storm_48 : decode cX10_storm 48 = .ok (.iconst 2, 1) := by decide +kernel
theorem dX10_storm_49 : decode cX10_storm 49 = .ok (.invokevirtual 122, 3) := by decide +kernel
theorem dX10_storm_52 : decode cX10_storm 52 = .ok (.ifCond .eq 5, 3) := by decide +kernel
theorem dX10_storm_55 : decode cX10_storm 55 = .ok (.iconst 0, 1) := by decide +kernel
theorem dX10_storm_56 : decode cX10_storm 56 = .ok (.ireturn, 1) := by decide +kernel
theorem dX10_storm_57 : decode cX10_storm 57 = .ok (.iconst 0, 1) := by decide +kernel
theorem dX10_storm_58 : decode cX10_storm 58 = .ok (.istore_n 3, 1) := by decide +kernel
theorem dX10_storm_59 : decode cX10_storm 59 = .ok (.iconst 0, 1) := by decide +kernel
theorem dX10_storm_60 : decode cX10_storm 60 = .ok (.istore 4, 2) := by decide +kernel
theorem dX10_storm_62 : decode cX10_storm 62 = .ok (.iload 4, 2) := by decide +kernel
theorem dX10_storm_64 : decode cX10_storm 64 = .ok (.bipush 6, 2) := by decide +kernel
theorem dX10_storm_66 : decode cX10_storm 66 = .ok (.if_icmp .ge 24, 3) := by decide +kernel
theorem dX10_storm_69 : decode cX10_storm 69 = .ok (.iload_n 3, 1) := by decide +kernel
theorem dX10_storm_70 : decode cX10_storm 70 = .ok (.aload_n 0, 1) := by decide +kernel
theorem dX10_storm_71 : decode cX10_storm 71 = .ok (.bipush 6, 2) := by decide +kernel
theorem dX10_storm_73 : decode cX10_storm 73 = .ok (.iload_n 1, 1) := by decide +kernel
theorem dX10_storm_74 : decode cX10_storm 74 = .ok (.imul, 1) := by decide +kernel
theorem dX10_storm_75 : decode cX10_storm 75 = .ok (.iload 4, 2) := by decide +kernel
theorem dX10_storm_77 : decode cX10_storm 77 = .ok (.iadd, 1) := by decide +kernel
theorem dX10_storm_78 : decode cX10_storm 78 = .ok (.iload_n 2, 1) := by decide +kernel
theorem dX10_storm_79 : decode cX10_storm 79 = .ok (.invokevirtual 145, 3) := by decide +kernel
theorem dX10_storm_82 : decode cX10_storm 82 = .ok (.iadd, 1) := by decide +kernel
theorem dX10_storm_83 : decode cX10_storm 83 = .ok (.istore_n 3, 1) := by decide +kernel
theorem dX10_storm_84 : decode cX10_storm 84 = .ok (.iinc 4 1, 3) := by decide +kernel
theorem dX10_storm_87 : decode cX10_storm 87 = .ok (.goto (-25), 3) := by decide +kernel
theorem dX10_storm_90 : decode cX10_storm 90 = .ok (.iload_n 3, 1) := by decide +kernel
theorem dX10_storm_91 : decode cX10_storm 91 = .ok (.ireturn, 1) := by decide +kernel
set_option maxRecDepth 20000 in
theorem ggX10_look_X10_noJar : GoodIn wsX10_look wsX10_noJar := goodIn_sub (xc (xt1 (xl (xl (xt4 (xt4 (xt4 (xh))))))) (xa (xc (xt1 (xl (xl (xt4 (xt4 (xt4 (xt1 (xh)))))))) (xc (xt1 (xl (xl (xt4 (xt4 (xt4 (xt1 (xt1 (xh))))))))) (xc (xt1 (xl (xl (xt4 (xt4 (xt4 (xt1 (xt1 (xt1 (xh)))))))))) (xc (xt1 (xl (xl (xt4 (xt4 (xt1 (xt1 (xt1 (xh))))))))) (xc (xt1 (xl (xl (xt16 (xh))))) (xn)))))) (fun _ h => xt1 (xr (h))))) (by decide +kernel)
set_option maxRecDepth 20000 in
theorem gX10_look_X10_noJar : GoodIn wsX10_look (wsV RX10 129 RX10 yX10_noJar wsX10_noJar) := goodIn_app (goodIn_sub (xc (xt1 (xl (xl (xt4 (xt4 (xh)))))) (xc (xt1 (xl (xl (xt4 (xt4 (xt1 (xh))))))) (xc (xt1 (xl (xl (xt4 (xt4 (xt1 (xt1 (xh)))))))) (xc (xt1 (xl (xl (xt4 (xt4 (xt1 (xt1 (xt1 (xh))))))))) (xn))))) (by decide +kernel)) ggX10_look_X10_noJar
set_option maxRecDepth 20000 in
theorem ggX10_look_X10_throwsIf : GoodIn wsX10_look wsX10_throwsIf := goodIn_sub (xc (xt1 (xl (xl (xt16 (xt4 (xh)))))) (xa (xc (xt1 (xl (xl (xh)))) (xn)) (fun _ h => xt1 (xr (h))))) (by decide +kernel)
set_option maxRecDepth 20000 in
theorem gX10_look_X10_throwsIf : GoodIn wsX10_look (wsV RX10 122 RX10 yX10_throwsIf wsX10_throwsIf) := goodIn_app (goodIn_sub (xc (xt1 (xl (xl (xt16 (xt1 (xh)))))) (xc (xt1 (xl (xl (xt16 (xt1 (xt1 (xh))))))) (xc (xt1 (xl (xl (xt16 (xt1 (xt1 (xt1 (xh)))))))) (xc (xt1 (xl (xl (xt4 (xt4 (xt1 (xt1 (xt1 (xh))))))))) (xn))))) (by decide +kernel)) ggX10_look_X10_throwsIf
set_option maxRecDepth 20000 in
theorem ggX10_look_X10_weight : GoodIn wsX10_look wsX10_weight := goodIn_sub (xc (xt1 (xl (xr (xh)))) (xa (xc (xt1 (xl (xr (xt1 (xh))))) (xc (xt1 (xl (xl (xt1 (xt1 (xh)))))) (xc (xt1 (xl (xl (xt4 (xt1 (xh)))))) (xn)))) (fun _ h => xt1 (xr (h))))) (by decide +kernel)
set_option maxRecDepth 20000 in
theorem gX10_look_X10_weight : GoodIn wsX10_look (wsV RX10 133 RX10 yX10_weight wsX10_weight) := goodIn_app (goodIn_sub (xc (xt1 (xl (xl (xt16 (xt4 (xt1 (xh))))))) (xc (xt1 (xl (xl (xt16 (xt4 (xt1 (xt1 (xh)))))))) (xc (xt1 (xl (xl (xt16 (xt4 (xt1 (xt1 (xt1 (xh))))))))) (xc (xt1 (xl (xl (xt4 (xt4 (xt1 (xt1 (xt1 (xh))))))))) (xn))))) (by decide +kernel)) ggX10_look_X10_weight
set_option maxRecDepth 20000 in
theorem ggX10_look_X10_above : GoodIn wsX10_look wsX10_above := goodIn_sub (xc (xt1 (xl (xr (xt4 (xt1 (xh)))))) (xa (xc (xt1 (xl (xr (xt4 (xt1 (xt1 (xh))))))) (xc (xt1 (xl (xl (xt4 (xt1 (xt1 (xt1 (xh)))))))) (xc (xt1 (xl (xl (xt16 (xt4 (xt1 (xh))))))) (xc (xt1 (xl (xl (xt16 (xt4 (xt1 (xt1 (xh)))))))) (xc (xt1 (xl (xl (xt16 (xt4 (xt1 (xt1 (xt1 (xh))))))))) (xc (xt1 (xl (xl (xt4 (xt4 (xt1 (xt1 (xt1 (xh))))))))) (xc (xt1 (xl (xr (xh)))) (xc (xt1 (xl (xr (xt1 (xh))))) (xc (xt1 (xl (xl (xt1 (xt1 (xh)))))) (xc (xt1 (xl (xl (xt4 (xt1 (xh)))))) (xn))))))))))) (fun _ h => xt1 (xr (h))))) (by decide +kernel)
set_option maxRecDepth 20000 in
theorem gX10_look_X10_above : GoodIn wsX10_look (wsV RX10 141 RX10 yX10_above wsX10_above) := goodIn_app (goodIn_sub (xc (xt1 (xl (xr (xt1 (xt1 (xh)))))) (xc (xt1 (xl (xr (xt1 (xt1 (xt1 (xh))))))) (xc (xt1 (xl (xr (xt4 (xh))))) (xc (xt1 (xl (xl (xt4 (xt4 (xt1 (xt1 (xt1 (xh))))))))) (xn))))) (by decide +kernel)) ggX10_look_X10_above
theorem dX10_look_0 : decode cX10_look 0 = .ok (.aload_n 0, 1) := by decide +kernel
theorem dX10_look_1 : decode cX10_look 1 = .ok (.iconst 0, 1) := by decide +kernel
theorem dX10_look_2 : decode cX10_look 2 = .ok (.putfield 109, 3) := by decide +kernel
theorem dX10_look_5 : decode cX10_look 5 = .ok (.aload_n 0, 1) := by decide +kernel
theorem dX10_look_6 : decode cX10_look 6 = .ok (.aload_n 0, 1) := by decide +kernel
theorem dX10_look_7 : decode cX10_look 7 = .ok (.iload_n 1, 1) := by decide +kernel
theorem dX10_look_8 : decode cX10_look 8 = .ok (.invokevirtual 129, 3) := by decide +kernel
theorem dX10_look_11 : decode cX10_look 11 = .ok (.iconst 1, 1) := by decide +kernel
theorem dX10_look_12 : decode cX10_look 12 = .ok (.invokevirtual 122, 3) := by decide +kernel
theorem dX10_look_15 : decode cX10_look 15 = .ok (.ifCond .eq 5, 3) := by decide +kernel
theorem dX10_look_18 : decode cX10_look 18 = .ok (.iconst 0, 1) := by decide +kernel
theorem dX10_look_19 : decode cX10_look 19 = .ok (.ireturn, 1) := by decide +kernel
theorem dX10_look_20 : decode cX10_look 20 = .ok (.iload_n 2, 1) := by decide +kernel
theorem dX10_look_21 : decode cX10_look 21 = .ok (.tableswitch 189 0 8 #[51, 58, 65, 72, 79, 86, 92, 115, 138], 51) := by decide +kernel
theorem dX10_look_72 : decode cX10_look 72 = .ok (.aload_n 0, 1) := by decide +kernel
theorem dX10_look_73 : decode cX10_look 73 = .ok (.getfield 31, 3) := by decide +kernel
theorem dX10_look_76 : decode cX10_look 76 = .ok (.iload_n 1, 1) := by decide +kernel
theorem dX10_look_77 : decode cX10_look 77 = .ok (.iaload, 1) := by decide +kernel
theorem dX10_look_78 : decode cX10_look 78 = .ok (.ireturn, 1) := by decide +kernel
theorem dX10_look_79 : decode cX10_look 79 = .ok (.aload_n 0, 1) := by decide +kernel
theorem dX10_look_80 : decode cX10_look 80 = .ok (.getfield 19, 3) := by decide +kernel
theorem dX10_look_83 : decode cX10_look 83 = .ok (.iload_n 1, 1) := by decide +kernel
theorem dX10_look_84 : decode cX10_look 84 = .ok (.iaload, 1) := by decide +kernel
theorem dX10_look_85 : decode cX10_look 85 = .ok (.ireturn, 1) := by decide +kernel
theorem dX10_look_86 : decode cX10_look 86 = .ok (.aload_n 0, 1) := by decide +kernel
theorem dX10_look_87 : decode cX10_look 87 = .ok (.getfield 22, 3) := by decide +kernel
theorem dX10_look_90 : decode cX10_look 90 = .ok (.iload_n 1, 1) := by decide +kernel
theorem dX10_look_91 : decode cX10_look 91 = .ok (.iaload, 1) := by decide +kernel
theorem dX10_look_92 : decode cX10_look 92 = .ok (.ireturn, 1) := by decide +kernel
theorem dX10_look_93 : decode cX10_look 93 = .ok (.aload_n 0, 1) := by decide +kernel
theorem dX10_look_94 : decode cX10_look 94 = .ok (.getfield 25, 3) := by decide +kernel
theorem dX10_look_97 : decode cX10_look 97 = .ok (.iload_n 1, 1) := by decide +kernel
theorem dX10_look_98 : decode cX10_look 98 = .ok (.iaload, 1) := by decide +kernel
theorem dX10_look_99 : decode cX10_look 99 = .ok (.ireturn, 1) := by decide +kernel
theorem dX10_look_100 : decode cX10_look 100 = .ok (.aload_n 0, 1) := by decide +kernel
theorem dX10_look_101 : decode cX10_look 101 = .ok (.getfield 28, 3) := by decide +kernel
theorem dX10_look_104 : decode cX10_look 104 = .ok (.iload_n 1, 1) := by decide +kernel
