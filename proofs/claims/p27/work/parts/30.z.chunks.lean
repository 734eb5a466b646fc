noncomputable def lx_E : List Cond := (vx_atS RX9 197 "java/lang/IllegalArgumentException" ["java/lang/RuntimeException", "java/lang/Exception"]).filter goodWord ++ (vx_atS RX9 282 "java/lang/UnsupportedOperationException" ["java/lang/RuntimeException", "java/lang/Exception"]).filter goodWord ++ (vx_atS RX9 275 "java/lang/IndexOutOfBoundsException" ["java/lang/RuntimeException", "java/lang/Exception"]).filter goodWord ++ (hn_atS RX9 171 "java/util/NoSuchElementException" ["java/lang/RuntimeException", "java/lang/Exception"]).filter goodWord
theorem lx_mE : ∀ w ∈ lx_E, w ∈ wsL_law := by
  intro w h
  unfold lx_E at h
  unfold wsL_law
  rcases List.mem_append.mp h with h | h
  rotate_left
  · exact List.mem_append_right _ h
  rcases List.mem_append.mp h with h | h
  rotate_left
  · exact List.mem_append_left _ (List.mem_append_right _ h)
  rcases List.mem_append.mp h with h | h
  rotate_left
  · exact List.mem_append_left _ (List.mem_append_left _ (List.mem_append_right _ h))
  exact List.mem_append_left _ (List.mem_append_left _ (List.mem_append_left _ (List.mem_append_right _ h)))
theorem lx_m0 : ∀ w ∈ wsL_law0, w ∈ wsL_law := by
  intro w h
  unfold wsL_law
  exact List.mem_append_left _ (List.mem_append_left _ (List.mem_append_left _ (List.mem_append_left _ h)))
theorem lx_l0 : ∀ w ∈ wsX90, w ∈ wsL_law := by
  intro w h
  refine lx_m0 w ?_
  unfold wsL_law0
  exact List.mem_append_left _ (List.mem_append_left _ (List.mem_append_left _ (List.mem_append_left _ (List.mem_append_left _ (List.mem_append_left _ (List.mem_append_left _ (List.mem_append_left _ (List.mem_append_left _ (List.mem_append_left _ (List.mem_append_left _ (List.mem_append_right _ h)))))))))))
theorem lx_l1 : ∀ w ∈ wsX100, w ∈ wsL_law := by
  intro w h
  refine lx_m0 w ?_
  unfold wsL_law0
  exact List.mem_append_left _ (List.mem_append_left _ (List.mem_append_left _ (List.mem_append_left _ (List.mem_append_left _ (List.mem_append_left _ (List.mem_append_left _ (List.mem_append_left _ (List.mem_append_left _ (List.mem_append_left _ (List.mem_append_right _ h))))))))))
theorem lx_l2 : ∀ w ∈ wsX70, w ∈ wsL_law := by
  intro w h
  refine lx_m0 w ?_
  unfold wsL_law0
  exact List.mem_append_left _ (List.mem_append_left _ (List.mem_append_left _ (List.mem_append_left _ (List.mem_append_left _ (List.mem_append_left _ (List.mem_append_left _ (List.mem_append_left _ (List.mem_append_left _ (List.mem_append_right _ h)))))))))
theorem lx_l3 : ∀ w ∈ wsX30, w ∈ wsL_law := by
  intro w h
  refine lx_m0 w ?_
  unfold wsL_law0
  exact List.mem_append_left _ (List.mem_append_left _ (List.mem_append_left _ (List.mem_append_left _ (List.mem_append_left _ (List.mem_append_left _ (List.mem_append_left _ (List.mem_append_left _ (List.mem_append_right _ h))))))))
theorem lx_l4 : ∀ w ∈ wsX20, w ∈ wsL_law := by
  intro w h
  refine lx_m0 w ?_
  unfold wsL_law0
  exact List.mem_append_left _ (List.mem_append_left _ (List.mem_append_left _ (List.mem_append_left _ (List.mem_append_left _ (List.mem_append_left _ (List.mem_append_left _ (List.mem_append_right _ h)))))))
theorem lx_l5 : ∀ w ∈ wsX10, w ∈ wsL_law := by
  intro w h
  refine lx_m0 w ?_
  unfold wsL_law0
  exact List.mem_append_left _ (List.mem_append_left _ (List.mem_append_left _ (List.mem_append_left _ (List.mem_append_left _ (List.mem_append_left _ (List.mem_append_right _ h))))))
theorem lx_l6 : ∀ w ∈ wsX00, w ∈ wsL_law := by
  intro w h
  refine lx_m0 w ?_
  unfold wsL_law0
  exact List.mem_append_left _ (List.mem_append_left _ (List.mem_append_left _ (List.mem_append_left _ (List.mem_append_left _ (List.mem_append_right _ h)))))
theorem lx_l7 : ∀ w ∈ wsX60, w ∈ wsL_law := by
  intro w h
  refine lx_m0 w ?_
  unfold wsL_law0
  exact List.mem_append_left _ (List.mem_append_left _ (List.mem_append_left _ (List.mem_append_left _ (List.mem_append_right _ h))))
theorem lx_l8 : ∀ w ∈ wsX40, w ∈ wsL_law := by
  intro w h
  refine lx_m0 w ?_
  unfold wsL_law0
  exact List.mem_append_left _ (List.mem_append_left _ (List.mem_append_left _ (List.mem_append_right _ h)))
theorem lx_l9 : ∀ w ∈ wsX50, w ∈ wsL_law := by
  intro w h
  refine lx_m0 w ?_
  unfold wsL_law0
  exact List.mem_append_left _ (List.mem_append_left _ (List.mem_append_right _ h))
theorem lx_l10 : ∀ w ∈ wsX80, w ∈ wsL_law := by
  intro w h
  refine lx_m0 w ?_
  unfold wsL_law0
  exact List.mem_append_left _ (List.mem_append_right _ h)
theorem lx_mR : ∀ w ∈ ((wsL_law0_r1 ++ (wsL_law0_r2 ++ (wsL_law0_r3 ++ (wsL_law0_r4 ++ (wsL_law0_r5 ++ (wsL_law0_r6 ++ (wsL_law0_r7 ++ (wsL_law0_r8 ++ (wsL_law0_r9 ++ (wsL_law0_r10 ++ (wsL_law0_r11 ++ (wsL_law0_r12 ++ (wsL_law0_r13 ++ (wsL_law0_r14 ++ (wsL_law0_r15 ++ (wsL_law0_r16 ++ (wsL_law0_r17 ++ (wsL_law0_r18 ++ (wsL_law0_r19 ++ (wsL_law0_r20 ++ (wsL_law0_r21 ++ (wsL_law0_r22 ++ (wsL_law0_r23 ++ (wsL_law0_r24 ++ (wsL_law0_r25 ++ (wsL_law0_r26 ++ (wsL_law0_r27 ++ (wsL_law0_r28 ++ (wsL_law0_r29 ++ (wsL_law0_r30 ++ (wsL_law0_r31 ++ (wsL_law0_r32 ++ (wsL_law0_r33 ++ (wsL_law0_r34 ++ (wsL_law0_r35 ++ (wsL_law0_r36 ++ (wsL_law0_r37))))))))))))))))))))))))))))))))))))) : List Cond), w ∈ wsL_law := by
  intro w h
  refine lx_m0 w ?_
  unfold wsL_law0
  exact List.mem_append_left _ (List.mem_append_left _ (List.mem_append_left _ (List.mem_append_left _ (List.mem_append_left _ (List.mem_append_left _ (List.mem_append_left _ (List.mem_append_left _ (List.mem_append_left _ (List.mem_append_left _ (List.mem_append_left _ (List.mem_append_left _ h)))))))))))
theorem lx_r0 : ∀ w ∈ wsL_law0_r1, w ∈ wsL_law := fun w h => lx_mR w (List.mem_append_left _ h)
theorem lx_r1 : ∀ w ∈ wsL_law0_r2, w ∈ wsL_law := fun w h => lx_mR w (List.mem_append_right _ (List.mem_append_left _ h))
theorem lx_r2 : ∀ w ∈ wsL_law0_r3, w ∈ wsL_law := fun w h => lx_mR w (List.mem_append_right _ (List.mem_append_right _ (List.mem_append_left _ h)))
theorem lx_r3 : ∀ w ∈ wsL_law0_r4, w ∈ wsL_law := fun w h => lx_mR w (List.mem_append_right _ (List.mem_append_right _ (List.mem_append_right _ (List.mem_append_left _ h))))
theorem lx_r4 : ∀ w ∈ wsL_law0_r5, w ∈ wsL_law := fun w h => lx_mR w (List.mem_append_right _ (List.mem_append_right _ (List.mem_append_right _ (List.mem_append_right _ (List.mem_append_left _ h)))))
theorem lx_r5 : ∀ w ∈ wsL_law0_r6, w ∈ wsL_law := fun w h => lx_mR w (List.mem_append_right _ (List.mem_append_right _ (List.mem_append_right _ (List.mem_append_right _ (List.mem_append_right _ (List.mem_append_left _ h))))))
theorem lx_r6 : ∀ w ∈ wsL_law0_r7, w ∈ wsL_law := fun w h => lx_mR w (List.mem_append_right _ (List.mem_append_right _ (List.mem_append_right _ (List.mem_append_right _ (List.mem_append_right _ (List.mem_append_right _ (List.mem_append_left _ h)))))))
theorem lx_r7 : ∀ w ∈ wsL_law0_r8, w ∈ wsL_law := fun w h => lx_mR w (List.mem_append_right _ (List.mem_append_right _ (List.mem_append_right _ (List.mem_append_right _ (List.mem_append_right _ (List.mem_append_right _ (List.mem_append_right _ (List.mem_append_left _ h))))))))
theorem lx_r8 : ∀ w ∈ wsL_law0_r9, w ∈ wsL_law := fun w h => lx_mR w (List.mem_append_right _ (List.mem_append_right _ (List.mem_append_right _ (List.mem_append_right _ (List.mem_append_right _ (List.mem_append_right _ (List.mem_append_right _ (List.mem_append_right _ (List.mem_append_left _ h)))))))))
theorem lx_r9 : ∀ w ∈ wsL_law0_r10, w ∈ wsL_law := fun w h => lx_mR w (List.mem_append_right _ (List.mem_append_right _ (List.mem_append_right _ (List.mem_append_right _ (List.mem_append_right _ (List.mem_append_right _ (List.mem_append_right _ (List.mem_append_right _ (List.mem_append_right _ (List.mem_append_left _ h))))))))))
theorem lx_r10 : ∀ w ∈ wsL_law0_r11, w ∈ wsL_law := fun w h => lx_mR w (List.mem_append_right _ (List.mem_append_right _ (List.mem_append_right _ (List.mem_append_right _ (List.mem_append_right _ (List.mem_append_right _ (List.mem_append_right _ (List.mem_append_right _ (List.mem_append_right _ (List.mem_append_right _ (List.mem_append_left _ h)))))))))))
theorem lx_r11 : ∀ w ∈ wsL_law0_r12, w ∈ wsL_law := fun w h => lx_mR w (List.mem_append_right _ (List.mem_append_right _ (List.mem_append_right _ (List.mem_append_right _ (List.mem_append_right _ (List.mem_append_right _ (List.mem_append_right _ (List.mem_append_right _ (List.mem_append_right _ (List.mem_append_right _ (List.mem_append_right _ (List.mem_append_left _ h))))))))))))
theorem lx_r12 : ∀ w ∈ wsL_law0_r13, w ∈ wsL_law := fun w h => lx_mR w (List.mem_append_right _ (List.mem_append_right _ (List.mem_append_right _ (List.mem_append_right _ (List.mem_append_right _ (List.mem_append_right _ (List.mem_append_right _ (List.mem_append_right _ (List.mem_append_right _ (List.mem_append_right _ (List.mem_append_right _ (List.mem_append_right _ (List.mem_append_left _ h)))))))))))))
theorem lx_r13 : ∀ w ∈ wsL_law0_r14, w ∈ wsL_law := fun w h => lx_mR w (List.mem_append_right _ (List.mem_append_right _ (List.mem_append_right _ (List.mem_append_right _ (List.mem_append_right _ (List.mem_append_right _ (List.mem_append_right _ (List.mem_append_right _ (List.mem_append_right _ (List.mem_append_right _ (List.mem_append_right _ (List.mem_append_right _ (List.mem_append_right _ (List.mem_append_left _ h))))))))))))))
theorem lx_r14 : ∀ w ∈ wsL_law0_r15, w ∈ wsL_law := fun w h => lx_mR w (List.mem_append_right _ (List.mem_append_right _ (List.mem_append_right _ (List.mem_append_right _ (List.mem_append_right _ (List.mem_append_right _ (List.mem_append_right _ (List.mem_append_right _ (List.mem_append_right _ (List.mem_append_right _ (List.mem_append_right _ (List.mem_append_right _ (List.mem_append_right _ (List.mem_append_right _ (List.mem_append_left _ h)))))))))))))))
theorem lx_r15 : ∀ w ∈ wsL_law0_r16, w ∈ wsL_law := fun w h => lx_mR w (List.mem_append_right _ (List.mem_append_right _ (List.mem_append_right _ (List.mem_append_right _ (List.mem_append_right _ (List.mem_append_right _ (List.mem_append_right _ (List.mem_append_right _ (List.mem_append_right _ (List.mem_append_right _ (List.mem_append_right _ (List.mem_append_right _ (List.mem_append_right _ (List.mem_append_right _ (List.mem_append_right _ (List.mem_append_left _ h))))))))))))))))
theorem lx_r16 : ∀ w ∈ wsL_law0_r17, w ∈ wsL_law := fun w h => lx_mR w (List.mem_append_right _ (List.mem_append_right _ (List.mem_append_right _ (List.mem_append_right _ (List.mem_append_right _ (List.mem_append_right _ (List.mem_append_right _ (List.mem_append_right _ (List.mem_append_right _ (List.mem_append_right _ (List.mem_append_right _ (List.mem_append_right _ (List.mem_append_right _ (List.mem_append_right _ (List.mem_append_right _ (List.mem_append_right _ (List.mem_append_left _ h)))))))))))))))))
theorem lx_r17 : ∀ w ∈ wsL_law0_r18, w ∈ wsL_law := fun w h => lx_mR w (List.mem_append_right _ (List.mem_append_right _ (List.mem_append_right _ (List.mem_append_right _ (List.mem_append_right _ (List.mem_append_right _ (List.mem_append_right _ (List.mem_append_right _ (List.mem_append_right _ (List.mem_append_right _ (List.mem_append_right _ (List.mem_append_right _ (List.mem_append_right _ (List.mem_append_right _ (List.mem_append_right _ (List.mem_append_right _ (List.mem_append_right _ (List.mem_append_left _ h))))))))))))))))))
theorem lx_r18 : ∀ w ∈ wsL_law0_r19, w ∈ wsL_law := fun w h => lx_mR w (List.mem_append_right _ (List.mem_append_right _ (List.mem_append_right _ (List.mem_append_right _ (List.mem_append_right _ (List.mem_append_right _ (List.mem_append_right _ (List.mem_append_right _ (List.mem_append_right _ (List.mem_append_right _ (List.mem_append_right _ (List.mem_append_right _ (List.mem_append_right _ (List.mem_append_right _ (List.mem_append_right _ (List.mem_append_right _ (List.mem_append_right _ (List.mem_append_right _ (List.mem_append_left _ h)))))))))))))))))))
theorem lx_r19 : ∀ w ∈ wsL_law0_r20, w ∈ wsL_law := fun w h => lx_mR w (List.mem_append_right _ (List.mem_append_right _ (List.mem_append_right _ (List.mem_append_right _ (List.mem_append_right _ (List.mem_append_right _ (List.mem_append_right _ (List.mem_append_right _ (List.mem_append_right _ (List.mem_append_right _ (List.mem_append_right _ (List.mem_append_right _ (List.mem_append_right _ (List.mem_append_right _ (List.mem_append_right _ (List.mem_append_right _ (List.mem_append_right _ (List.mem_append_right _ (List.mem_append_right _ (List.mem_append_left _ h))))))))))))))))))))
theorem lx_r20 : ∀ w ∈ wsL_law0_r21, w ∈ wsL_law := fun w h => lx_mR w (List.mem_append_right _ (List.mem_append_right _ (List.mem_append_right _ (List.mem_append_right _ (List.mem_append_right _ (List.mem_append_right _ (List.mem_append_right _ (List.mem_append_right _ (List.mem_append_right _ (List.mem_append_right _ (List.mem_append_right _ (List.mem_append_right _ (List.mem_append_right _ (List.mem_append_right _ (List.mem_append_right _ (List.mem_append_right _ (List.mem_append_right _ (List.mem_append_right _ (List.mem_append_right _ (List.mem_append_right _ (List.mem_append_left _ h)))))))))))))))))))))
theorem lx_r21 : ∀ w ∈ wsL_law0_r22, w ∈ wsL_law := fun w h => lx_mR w (List.mem_append_right _ (List.mem_append_right _ (List.mem_append_right _ (List.mem_append_right _ (List.mem_append_right _ (List.mem_append_right _ (List.mem_append_right _ (List.mem_append_right _ (List.mem_append_right _ (List.mem_append_right _ (List.mem_append_right _ (List.mem_append_right _ (List.mem_append_right _ (List.mem_append_right _ (List.mem_append_right _ (List.mem_append_right _ (List.mem_append_right _ (List.mem_append_right _ (List.mem_append_right _ (List.mem_append_right _ (List.mem_append_right _ (List.mem_append_left _ h))))))))))))))))))))))
theorem lx_r22 : ∀ w ∈ wsL_law0_r23, w ∈ wsL_law := fun w h => lx_mR w (List.mem_append_right _ (List.mem_append_right _ (List.mem_append_right _ (List.mem_append_right _ (List.mem_append_right _ (List.mem_append_right _ (List.mem_append_right _ (List.mem_append_right _ (List.mem_append_right _ (List.mem_append_right _ (List.mem_append_right _ (List.mem_append_right _ (List.mem_append_right _ (List.mem_append_right _ (List.mem_append_right _ (List.mem_append_right _ (List.mem_append_right _ (List.mem_append_right _ (List.mem_append_right _ (List.mem_append_right _ (List.mem_append_right _ (List.mem_append_right _ (List.mem_append_left _ h)))))))))))))))))))))))
theorem lx_r23 : ∀ w ∈ wsL_law0_r24, w ∈ wsL_law := fun w h => lx_mR w (List.mem_append_right _ (List.mem_append_right _ (List.mem_append_right _ (List.mem_append_right _ (List.mem_append_right _ (List.mem_append_right _ (List.mem_append_right _ (List.mem_append_right _ (List.mem_append_right _ (List.mem_append_right _ (List.mem_append_right _ (List.mem_append_right _ (List.mem_append_right _ (List.mem_append_right _ (List.mem_append_right _ (List.mem_append_right _ (List.mem_append_right _ (List.mem_append_right _ (List.mem_append_right _ (List.mem_append_right _ (List.mem_append_right _ (List.mem_append_right _ (List.mem_append_right _ (List.mem_append_left _ h))))))))))))))))))))))))
theorem lx_r24 : ∀ w ∈ wsL_law0_r25, w ∈ wsL_law := fun w h => lx_mR w (List.mem_append_right _ (List.mem_append_right _ (List.mem_append_right _ (List.mem_append_right _ (List.mem_append_right _ (List.mem_append_right _ (List.mem_append_right _ (List.mem_append_right _ (List.mem_append_right _ (List.mem_append_right _ (List.mem_append_right _ (List.mem_append_right _ (List.mem_append_right _ (List.mem_append_right _ (List.mem_append_right _ (List.mem_append_right _ (List.mem_append_right _ (List.mem_append_right _ (List.mem_append_right _ (List.mem_append_right _ (List.mem_append_right _ (List.mem_append_right _ (List.mem_append_right _ (List.mem_append_right _ (List.mem_append_left _ h)))))))))))))))))))))))))
theorem lx_r25 : ∀ w ∈ wsL_law0_r26, w ∈ wsL_law := fun w h => lx_mR w (List.mem_append_right _ (List.mem_append_right _ (List.mem_append_right _ (List.mem_append_right _ (List.mem_append_right _ (List.mem_append_right _ (List.mem_append_right _ (List.mem_append_right _ (List.mem_append_right _ (List.mem_append_right _ (List.mem_append_right _ (List.mem_append_right _ (List.mem_append_right _ (List.mem_append_right _ (List.mem_append_right _ (List.mem_append_right _ (List.mem_append_right _ (List.mem_append_right _ (List.mem_append_right _ (List.mem_append_right _ (List.mem_append_right _ (List.mem_append_right _ (List.mem_append_right _ (List.mem_append_right _ (List.mem_append_right _ (List.mem_append_left _ h))))))))))))))))))))))))))
theorem lx_r26 : ∀ w ∈ wsL_law0_r27, w ∈ wsL_law := fun w h => lx_mR w (List.mem_append_right _ (List.mem_append_right _ (List.mem_append_right _ (List.mem_append_right _ (List.mem_append_right _ (List.mem_append_right _ (List.mem_append_right _ (List.mem_append_right _ (List.mem_append_right _ (List.mem_append_right _ (List.mem_append_right _ (List.mem_append_right _ (List.mem_append_right _ (List.mem_append_right _ (List.mem_append_right _ (List.mem_append_right _ (List.mem_append_right _ (List.mem_append_right _ (List.mem_append_right _ (List.mem_append_right _ (List.mem_append_right _ (List.mem_append_right _ (List.mem_append_right _ (List.mem_append_right _ (List.mem_append_right _ (List.mem_append_right _ (List.mem_append_left _ h)))))))))))))))))))))))))))
theorem lx_r27 : ∀ w ∈ wsL_law0_r28, w ∈ wsL_law := fun w h => lx_mR w (List.mem_append_right _ (List.mem_append_right _ (List.mem_append_right _ (List.mem_append_right _ (List.mem_append_right _ (List.mem_append_right _ (List.mem_append_right _ (List.mem_append_right _ (List.mem_append_right _ (List.mem_append_right _ (List.mem_append_right _ (List.mem_append_right _ (List.mem_append_right _ (List.mem_append_right _ (List.mem_append_right _ (List.mem_append_right _ (List.mem_append_right _ (List.mem_append_right _ (List.mem_append_right _ (List.mem_append_right _ (List.mem_append_right _ (List.mem_append_right _ (List.mem_append_right _ (List.mem_append_right _ (List.mem_append_right _ (List.mem_append_right _ (List.mem_append_right _ (List.mem_append_left _ h))))))))))))))))))))))))))))
theorem lx_r28 : ∀ w ∈ wsL_law0_r29, w ∈ wsL_law := fun w h => lx_mR w (List.mem_append_right _ (List.mem_append_right _ (List.mem_append_right _ (List.mem_append_right _ (List.mem_append_right _ (List.mem_append_right _ (List.mem_append_right _ (List.mem_append_right _ (List.mem_append_right _ (List.mem_append_right _ (List.mem_append_right _ (List.mem_append_right _ (List.mem_append_right _ (List.mem_append_right _ (List.mem_append_right _ (List.mem_append_right _ (List.mem_append_right _ (List.mem_append_right _ (List.mem_append_right _ (List.mem_append_right _ (List.mem_append_right _ (List.mem_append_right _ (List.mem_append_right _ (List.mem_append_right _ (List.mem_append_right _ (List.mem_append_right _ (List.mem_append_right _ (List.mem_append_right _ (List.mem_append_left _ h)))))))))))))))))))))))))))))
theorem lx_r29 : ∀ w ∈ wsL_law0_r30, w ∈ wsL_law := fun w h => lx_mR w (List.mem_append_right _ (List.mem_append_right _ (List.mem_append_right _ (List.mem_append_right _ (List.mem_append_right _ (List.mem_append_right _ (List.mem_append_right _ (List.mem_append_right _ (List.mem_append_right _ (List.mem_append_right _ (List.mem_append_right _ (List.mem_append_right _ (List.mem_append_right _ (List.mem_append_right _ (List.mem_append_right _ (List.mem_append_right _ (List.mem_append_right _ (List.mem_append_right _ (List.mem_append_right _ (List.mem_append_right _ (List.mem_append_right _ (List.mem_append_right _ (List.mem_append_right _ (List.mem_append_right _ (List.mem_append_right _ (List.mem_append_right _ (List.mem_append_right _ (List.mem_append_right _ (List.mem_append_right _ (List.mem_append_left _ h))))))))))))))))))))))))))))))
theorem lx_r30 : ∀ w ∈ wsL_law0_r31, w ∈ wsL_law := fun w h => lx_mR w (List.mem_append_right _ (List.mem_append_right _ (List.mem_append_right _ (List.mem_append_right _ (List.mem_append_right _ (List.mem_append_right _ (List.mem_append_right _ (List.mem_append_right _ (List.mem_append_right _ (List.mem_append_right _ (List.mem_append_right _ (List.mem_append_right _ (List.mem_append_right _ (List.mem_append_right _ (List.mem_append_right _ (List.mem_append_right _ (List.mem_append_right _ (List.mem_append_right _ (List.mem_append_right _ (List.mem_append_right _ (List.mem_append_right _ (List.mem_append_right _ (List.mem_append_right _ (List.mem_append_right _ (List.mem_append_right _ (List.mem_append_right _ (List.mem_append_right _ (List.mem_append_right _ (List.mem_append_right _ (List.mem_append_right _ (List.mem_append_left _ h)))))))))))))))))))))))))))))))
theorem lx_r31 : ∀ w ∈ wsL_law0_r32, w ∈ wsL_law := fun w h => lx_mR w (List.mem_append_right _ (List.mem_append_right _ (List.mem_append_right _ (List.mem_append_right _ (List.mem_append_right _ (List.mem_append_right _ (List.mem_append_right _ (List.mem_append_right _ (List.mem_append_right _ (List.mem_append_right _ (List.mem_append_right _ (List.mem_append_right _ (List.mem_append_right _ (List.mem_append_right _ (List.mem_append_right _ (List.mem_append_right _ (List.mem_append_right _ (List.mem_append_right _ (List.mem_append_right _ (List.mem_append_right _ (List.mem_append_right _ (List.mem_append_right _ (List.mem_append_right _ (List.mem_append_right _ (List.mem_append_right _ (List.mem_append_right _ (List.mem_append_right _ (List.mem_append_right _ (List.mem_append_right _ (List.mem_append_right _ (List.mem_append_right _ (List.mem_append_left _ h))))))))))))))))))))))))))))))))
theorem lx_r32 : ∀ w ∈ wsL_law0_r33, w ∈ wsL_law := fun w h => lx_mR w (List.mem_append_right _ (List.mem_append_right _ (List.mem_append_right _ (List.mem_append_right _ (List.mem_append_right _ (List.mem_append_right _ (List.mem_append_right _ (List.mem_append_right _ (List.mem_append_right _ (List.mem_append_right _ (List.mem_append_right _ (List.mem_append_right _ (List.mem_append_right _ (List.mem_append_right _ (List.mem_append_right _ (List.mem_append_right _ (List.mem_append_right _ (List.mem_append_right _ (List.mem_append_right _ (List.mem_append_right _ (List.mem_append_right _ (List.mem_append_right _ (List.mem_append_right _ (List.mem_append_right _ (List.mem_append_right _ (List.mem_append_right _ (List.mem_append_right _ (List.mem_append_right _ (List.mem_append_right _ (List.mem_append_right _ (List.mem_append_right _ (List.mem_append_right _ (List.mem_append_left _ h)))))))))))))))))))))))))))))))))
theorem lx_r33 : ∀ w ∈ wsL_law0_r34, w ∈ wsL_law := fun w h => lx_mR w (List.mem_append_right _ (List.mem_append_right _ (List.mem_append_right _ (List.mem_append_right _ (List.mem_append_right _ (List.mem_append_right _ (List.mem_append_right _ (List.mem_append_right _ (List.mem_append_right _ (List.mem_append_right _ (List.mem_append_right _ (List.mem_append_right _ (List.mem_append_right _ (List.mem_append_right _ (List.mem_append_right _ (List.mem_append_right _ (List.mem_append_right _ (List.mem_append_right _ (List.mem_append_right _ (List.mem_append_right _ (List.mem_append_right _ (List.mem_append_right _ (List.mem_append_right _ (List.mem_append_right _ (List.mem_append_right _ (List.mem_append_right _ (List.mem_append_right _ (List.mem_append_right _ (List.mem_append_right _ (List.mem_append_right _ (List.mem_append_right _ (List.mem_append_right _ (List.mem_append_right _ (List.mem_append_left _ h))))))))))))))))))))))))))))))))))
theorem lx_r34 : ∀ w ∈ wsL_law0_r35, w ∈ wsL_law := fun w h => lx_mR w (List.mem_append_right _ (List.mem_append_right _ (List.mem_append_right _ (List.mem_append_right _ (List.mem_append_right _ (List.mem_append_right _ (List.mem_append_right _ (List.mem_append_right _ (List.mem_append_right _ (List.mem_append_right _ (List.mem_append_right _ (List.mem_append_right _ (List.mem_append_right _ (List.mem_append_right _ (List.mem_append_right _ (List.mem_append_right _ (List.mem_append_right _ (List.mem_append_right _ (List.mem_append_right _ (List.mem_append_right _ (List.mem_append_right _ (List.mem_append_right _ (List.mem_append_right _ (List.mem_append_right _ (List.mem_append_right _ (List.mem_append_right _ (List.mem_append_right _ (List.mem_append_right _ (List.mem_append_right _ (List.mem_append_right _ (List.mem_append_right _ (List.mem_append_right _ (List.mem_append_right _ (List.mem_append_right _ (List.mem_append_left _ h)))))))))))))))))))))))))))))))))))
theorem lx_r35 : ∀ w ∈ wsL_law0_r36, w ∈ wsL_law := fun w h => lx_mR w (List.mem_append_right _ (List.mem_append_right _ (List.mem_append_right _ (List.mem_append_right _ (List.mem_append_right _ (List.mem_append_right _ (List.mem_append_right _ (List.mem_append_right _ (List.mem_append_right _ (List.mem_append_right _ (List.mem_append_right _ (List.mem_append_right _ (List.mem_append_right _ (List.mem_append_right _ (List.mem_append_right _ (List.mem_append_right _ (List.mem_append_right _ (List.mem_append_right _ (List.mem_append_right _ (List.mem_append_right _ (List.mem_append_right _ (List.mem_append_right _ (List.mem_append_right _ (List.mem_append_right _ (List.mem_append_right _ (List.mem_append_right _ (List.mem_append_right _ (List.mem_append_right _ (List.mem_append_right _ (List.mem_append_right _ (List.mem_append_right _ (List.mem_append_right _ (List.mem_append_right _ (List.mem_append_right _ (List.mem_append_right _ (List.mem_append_left _ h))))))))))))))))))))))))))))))))))))
theorem lx_r36 : ∀ w ∈ wsL_law0_r37, w ∈ wsL_law := fun w h => lx_mR w (List.mem_append_right _ (List.mem_append_right _ (List.mem_append_right _ (List.mem_append_right _ (List.mem_append_right _ (List.mem_append_right _ (List.mem_append_right _ (List.mem_append_right _ (List.mem_append_right _ (List.mem_append_right _ (List.mem_append_right _ (List.mem_append_right _ (List.mem_append_right _ (List.mem_append_right _ (List.mem_append_right _ (List.mem_append_right _ (List.mem_append_right _ (List.mem_append_right _ (List.mem_append_right _ (List.mem_append_right _ (List.mem_append_right _ (List.mem_append_right _ (List.mem_append_right _ (List.mem_append_right _ (List.mem_append_right _ (List.mem_append_right _ (List.mem_append_right _ (List.mem_append_right _ (List.mem_append_right _ (List.mem_append_right _ (List.mem_append_right _ (List.mem_append_right _ (List.mem_append_right _ (List.mem_append_right _ (List.mem_append_right _ (List.mem_append_right _ (h)))))))))))))))))))))))))))))))))))))
noncomputable def lx_ch (c : Nat) : List Cond := (if c < 24 then (if c < 12 then (if c < 6 then (if c < 3 then (if c < 1 then wsL_law0_r1 else (if c < 2 then wsL_law0_r2 else wsL_law0_r3)) else (if c < 4 then wsL_law0_r4 else (if c < 5 then wsL_law0_r5 else wsL_law0_r6))) else (if c < 9 then (if c < 7 then wsL_law0_r7 else (if c < 8 then wsL_law0_r8 else wsL_law0_r9)) else (if c < 10 then wsL_law0_r10 else (if c < 11 then wsL_law0_r11 else wsL_law0_r12)))) else (if c < 18 then (if c < 15 then (if c < 13 then wsL_law0_r13 else (if c < 14 then wsL_law0_r14 else wsL_law0_r15)) else (if c < 16 then wsL_law0_r16 else (if c < 17 then wsL_law0_r17 else wsL_law0_r18))) else (if c < 21 then (if c < 19 then wsL_law0_r19 else (if c < 20 then wsL_law0_r20 else wsL_law0_r21)) else (if c < 22 then wsL_law0_r22 else (if c < 23 then wsL_law0_r23 else wsL_law0_r24))))) else (if c < 36 then (if c < 30 then (if c < 27 then (if c < 25 then wsL_law0_r25 else (if c < 26 then wsL_law0_r26 else wsL_law0_r27)) else (if c < 28 then wsL_law0_r28 else (if c < 29 then wsL_law0_r29 else wsL_law0_r30))) else (if c < 33 then (if c < 31 then wsL_law0_r31 else (if c < 32 then wsL_law0_r32 else wsL_law0_r33)) else (if c < 34 then wsL_law0_r34 else (if c < 35 then wsL_law0_r35 else wsL_law0_r36)))) else (if c < 42 then (if c < 39 then (if c < 37 then wsL_law0_r37 else (if c < 38 then wsX90 else wsX100)) else (if c < 40 then wsX70 else (if c < 41 then wsX30 else wsX20))) else (if c < 45 then (if c < 43 then wsX10 else (if c < 44 then wsX00 else wsX60)) else (if c < 47 then (if c < 46 then wsX40 else wsX50) else (if c < 48 then wsX80 else lx_E))))))
theorem lx_hch : ∀ c, ∀ w ∈ lx_ch c, w ∈ wsL_law := by
  intro c w h
  unfold lx_ch at h
  by_cases c0 : c < 24
  · rw [if_pos c0] at h
    by_cases c1 : c < 12
    · rw [if_pos c1] at h
      by_cases c2 : c < 6
      · rw [if_pos c2] at h
        by_cases c3 : c < 3
        · rw [if_pos c3] at h
          by_cases c4 : c < 1
          · rw [if_pos c4] at h
            exact lx_r0 w h
          · rw [if_neg c4] at h
            by_cases c5 : c < 2
            · rw [if_pos c5] at h
              exact lx_r1 w h
            · rw [if_neg c5] at h
              exact lx_r2 w h
        · rw [if_neg c3] at h
          by_cases c4 : c < 4
          · rw [if_pos c4] at h
            exact lx_r3 w h
          · rw [if_neg c4] at h
            by_cases c5 : c < 5
            · rw [if_pos c5] at h
              exact lx_r4 w h
            · rw [if_neg c5] at h
              exact lx_r5 w h
      · rw [if_neg c2] at h
        by_cases c3 : c < 9
        · rw [if_pos c3] at h
          by_cases c4 : c < 7
          · rw [if_pos c4] at h
            exact lx_r6 w h
          · rw [if_neg c4] at h
            by_cases c5 : c < 8
            · rw [if_pos c5] at h
              exact lx_r7 w h
            · rw [if_neg c5] at h
              exact lx_r8 w h
        · rw [if_neg c3] at h
          by_cases c4 : c < 10
          · rw [if_pos c4] at h
            exact lx_r9 w h
          · rw [if_neg c4] at h
            by_cases c5 : c < 11
            · rw [if_pos c5] at h
              exact lx_r10 w h
            · rw [if_neg c5] at h
              exact lx_r11 w h
    · rw [if_neg c1] at h
      by_cases c2 : c < 18
      · rw [if_pos c2] at h
        by_cases c3 : c < 15
        · rw [if_pos c3] at h
          by_cases c4 : c < 13
          · rw [if_pos c4] at h
            exact lx_r12 w h
          · rw [if_neg c4] at h
            by_cases c5 : c < 14
            · rw [if_pos c5] at h
              exact lx_r13 w h
            · rw [if_neg c5] at h
              exact lx_r14 w h
        · rw [if_neg c3] at h
          by_cases c4 : c < 16
          · rw [if_pos c4] at h
            exact lx_r15 w h
          · rw [if_neg c4] at h
            by_cases c5 : c < 17
            · rw [if_pos c5] at h
              exact lx_r16 w h
            · rw [if_neg c5] at h
              exact lx_r17 w h
      · rw [if_neg c2] at h
        by_cases c3 : c < 21
        · rw [if_pos c3] at h
          by_cases c4 : c < 19
          · rw [if_pos c4] at h
            exact lx_r18 w h
          · rw [if_neg c4] at h
            by_cases c5 : c < 20
            · rw [if_pos c5] at h
              exact lx_r19 w h
            · rw [if_neg c5] at h
              exact lx_r20 w h
        · rw [if_neg c3] at h
          by_cases c4 : c < 22
          · rw [if_pos c4] at h
            exact lx_r21 w h
          · rw [if_neg c4] at h
            by_cases c5 : c < 23
            · rw [if_pos c5] at h
              exact lx_r22 w h
            · rw [if_neg c5] at h
              exact lx_r23 w h
  · rw [if_neg c0] at h
    by_cases c1 : c < 36
    · rw [if_pos c1] at h
      by_cases c2 : c < 30
      · rw [if_pos c2] at h
        by_cases c3 : c < 27
        · rw [if_pos c3] at h
          by_cases c4 : c < 25
          · rw [if_pos c4] at h
            exact lx_r24 w h
          · rw [if_neg c4] at h
            by_cases c5 : c < 26
            · rw [if_pos c5] at h
              exact lx_r25 w h
            · rw [if_neg c5] at h
              exact lx_r26 w h
        · rw [if_neg c3] at h
          by_cases c4 : c < 28
          · rw [if_pos c4] at h
            exact lx_r27 w h
          · rw [if_neg c4] at h
            by_cases c5 : c < 29
            · rw [if_pos c5] at h
              exact lx_r28 w h
            · rw [if_neg c5] at h
              exact lx_r29 w h
      · rw [if_neg c2] at h
        by_cases c3 : c < 33
        · rw [if_pos c3] at h
          by_cases c4 : c < 31
          · rw [if_pos c4] at h
            exact lx_r30 w h
          · rw [if_neg c4] at h
            by_cases c5 : c < 32
            · rw [if_pos c5] at h
              exact lx_r31 w h
            · rw [if_neg c5] at h
              exact lx_r32 w h
        · rw [if_neg c3] at h
          by_cases c4 : c < 34
          · rw [if_pos c4] at h
            exact lx_r33 w h
          · rw [if_neg c4] at h
            by_cases c5 : c < 35
            · rw [if_pos c5] at h
              exact lx_r34 w h
            · rw [if_neg c5] at h
              exact lx_r35 w h
    · rw [if_neg c1] at h
      by_cases c2 : c < 42
      · rw [if_pos c2] at h
        by_cases c3 : c < 39
        · rw [if_pos c3] at h
          by_cases c4 : c < 37
          · rw [if_pos c4] at h
            exact lx_r36 w h
          · rw [if_neg c4] at h
            by_cases c5 : c < 38
            · rw [if_pos c5] at h
              exact lx_l0 w h
            · rw [if_neg c5] at h
              exact lx_l1 w h
        · rw [if_neg c3] at h
          by_cases c4 : c < 40
          · rw [if_pos c4] at h
            exact lx_l2 w h
          · rw [if_neg c4] at h
            by_cases c5 : c < 41
            · rw [if_pos c5] at h
              exact lx_l3 w h
            · rw [if_neg c5] at h
              exact lx_l4 w h
      · rw [if_neg c2] at h
        by_cases c3 : c < 45
        · rw [if_pos c3] at h
          by_cases c4 : c < 43
          · rw [if_pos c4] at h
            exact lx_l5 w h
          · rw [if_neg c4] at h
            by_cases c5 : c < 44
            · rw [if_pos c5] at h
              exact lx_l6 w h
            · rw [if_neg c5] at h
              exact lx_l7 w h
        · rw [if_neg c3] at h
          by_cases c4 : c < 47
          · rw [if_pos c4] at h
            by_cases c5 : c < 46
            · rw [if_pos c5] at h
              exact lx_l8 w h
            · rw [if_neg c5] at h
              exact lx_l9 w h
          · rw [if_neg c4] at h
            by_cases c5 : c < 48
            · rw [if_pos c5] at h
              exact lx_l10 w h
            · rw [if_neg c5] at h
              exact lx_mE w h

