theorem dX9_falsehoodAt_80 : decode cX9_falsehoodAt 80 = .ok (.iconst 3, 1) := by decide +kernel
theorem dX9_falsehoodAt_81 : decode cX9_falsehoodAt 81 = .ok (.ireturn, 1) := by decide +kernel
theorem dX9_falsehoodAt_82 : decode cX9_falsehoodAt 82 = .ok (.aload_n 0, 1) := by decide +kernel
theorem dX9_falsehoodAt_83 : decode cX9_falsehoodAt 83 = .ok (.getfield 19, 3) := by decide +kernel
theorem dX9_falsehoodAt_86 : decode cX9_falsehoodAt 86 = .ok (.getfield 283, 3) := by decide +kernel
theorem dX9_falsehoodAt_89 : decode cX9_falsehoodAt 89 = .ok (.iconst 3, 1) := by decide +kernel
theorem dX9_falsehoodAt_90 : decode cX9_falsehoodAt 90 = .ok (.iaload, 1) := by decide +kernel
theorem dX9_falsehoodAt_91 : decode cX9_falsehoodAt 91 = .ok (.aload_n 0, 1) := by decide +kernel
theorem dX9_falsehoodAt_92 : decode cX9_falsehoodAt 92 = .ok (.getfield 35, 3) := by decide +kernel
theorem dX9_falsehoodAt_95 : decode cX9_falsehoodAt 95 = .ok (.getfield 146, 3) := by decide +kernel
theorem dX9_falsehoodAt_98 : decode cX9_falsehoodAt 98 = .ok (.iload_n 2, 1) := by decide +kernel
theorem dX9_falsehoodAt_99 : decode cX9_falsehoodAt 99 = .ok (.iaload, 1) := by decide +kernel
theorem dX9_falsehoodAt_100 : decode cX9_falsehoodAt 100 = .ok (.if_icmp .eq 5, 3) := by decide +kernel
theorem dX9_falsehoodAt_103 : decode cX9_falsehoodAt 103 = .ok (.iconst 4, 1) := by decide +kernel
theorem dX9_falsehoodAt_104 : decode cX9_falsehoodAt 104 = .ok (.ireturn, 1) := by decide +kernel
theorem dX9_falsehoodAt_105 : decode cX9_falsehoodAt 105 = .ok (.aload_n 0, 1) := by decide +kernel
theorem dX9_falsehoodAt_106 : decode cX9_falsehoodAt 106 = .ok (.getfield 19, 3) := by decide +kernel
theorem dX9_falsehoodAt_109 : decode cX9_falsehoodAt 109 = .ok (.getfield 283, 3) := by decide +kernel
theorem dX9_falsehoodAt_112 : decode cX9_falsehoodAt 112 = .ok (.iconst 4, 1) := by decide +kernel
theorem dX9_falsehoodAt_113 : decode cX9_falsehoodAt 113 = .ok (.iaload, 1) := by decide +kernel
theorem dX9_falsehoodAt_114 : decode cX9_falsehoodAt 114 = .ok (.aload_n 0, 1) := by decide +kernel
theorem dX9_falsehoodAt_115 : decode cX9_falsehoodAt 115 = .ok (.getfield 58, 3) := by decide +kernel
theorem dX9_falsehoodAt_118 : decode cX9_falsehoodAt 118 = .ok (.iload_n 1, 1) := by decide +kernel
theorem dX9_falsehoodAt_119 : decode cX9_falsehoodAt 119 = .ok (.aload_n 0, 1) := by decide +kernel
theorem dX9_falsehoodAt_120 : decode cX9_falsehoodAt 120 = .ok (.getfield 35, 3) := by decide +kernel
theorem dX9_falsehoodAt_123 : decode cX9_falsehoodAt 123 = .ok (.getfield 149, 3) := by decide +kernel
theorem dX9_falsehoodAt_126 : decode cX9_falsehoodAt 126 = .ok (.iload_n 2, 1) := by decide +kernel
theorem dX9_falsehoodAt_127 : decode cX9_falsehoodAt 127 = .ok (.iaload, 1) := by decide +kernel
theorem dX9_falsehoodAt_128 : decode cX9_falsehoodAt 128 = .ok (.invokevirtual 286, 3) := by decide +kernel
theorem dX9_falsehoodAt_131 : decode cX9_falsehoodAt 131 = .ok (.if_icmp .eq 7, 3) := by decide +kernel
theorem dX9_falsehoodAt_134 : decode cX9_falsehoodAt 134 = .ok (.iconst 5, 1) := by decide +kernel
theorem dX9_falsehoodAt_135 : decode cX9_falsehoodAt 135 = .ok (.goto 4, 3) := by decide +kernel
theorem dX9_falsehoodAt_138 : decode cX9_falsehoodAt 138 = .ok (.iconst 0, 1) := by decide +kernel
theorem dX9_falsehoodAt_139 : decode cX9_falsehoodAt 139 = .ok (.ireturn, 1) := by decide +kernel
